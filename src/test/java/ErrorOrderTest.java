/**
 * "It names its errors in the order in which they are checked, and the first one that applies is returned": for each
 * two errors of a call that can apply together, the first one is due. And NONE "is returned only if no error applies".
 */
public final class ErrorOrderTest {
    private static final int NO_SUCH = GaleNames.NO_SUCH, BAD_VALUE = GaleNames.BAD_VALUE;
    private static final int BAD_TEXT = GaleNames.BAD_TEXT, TOO_MANY = GaleNames.TOO_MANY;
    private static final int NOT_POSSIBLE = GaleNames.NOT_POSSIBLE, NONE = GaleNames.NONE;
    /** Offices.ordinary() knows anna as retired. Each text has a cause of NOT_POSSIBLE for its list 0 of coast 0. */
    private static final String[] NOT_POSSIBLE_TEXTS = {"anna", "bob", "eve", "hugo,hugo", "cyrus", "ida,idaho"};
    private static final Due due = new Due();

    public static void main(String[] args) {
        fillNoSuchFirst();
        fillBadTextFirst();
        fillNotPossibleBeforeListIsFull();
        fillNotPossibleBeforeAllAreKnown();
        storm();
        harm();
        namesake();
        apologise();
        views();
        left();
        put();
        restore();
        none();
        due.end();
    }

    private static GaleNames ordinary(String text) {
        GaleNames x = Offices.ordinary();
        Due.pad(x, text);
        return x;
    }

    private static GaleNames full(String text) {
        GaleNames x = Offices.full();
        Due.pad(x, text);
        return x;
    }

    private static void noSuchFill(String text) {
        int[][] notThere = {{-1, 0}, {2, 0}, {0, -1}, {0, 3}, {2, 3}, {-1, -1}};
        for (int[] list : notThere) {
            String call = "fill(" + list[0] + ", " + list[1] + ") of " + text;
            due.is(call, ordinary(text).fill(list[0], list[1]), NO_SUCH);
            due.is(call + " when full", full(text).fill(list[0], list[1]), NO_SUCH);
        }
    }

    private static void fillNoSuchFirst() {
        due.promise(3, "fill, NO_SUCH before the others");
        for (String text : new String[] {"", "a", "hugo,", "abcdefg", "Hugo"}) noSuchFill(text);
        for (String text : NOT_POSSIBLE_TEXTS) noSuchFill(text);
        noSuchFill("hu,ia,jo,ka,li,mo,ni,om,pa");
    }

    private static void fillBadTextFirst() {
        due.promise(3, "fill, BAD_TEXT before NOT_POSSIBLE and TOO_MANY");
        for (String text : NOT_POSSIBLE_TEXTS) {
            for (String end : new String[] {",", ",z", "!", ",zoe,", ",abcdefg", ",,zoe"}) {
                due.is("fill of " + text + end, ordinary(text + end).fill(0, 0), BAD_TEXT);
            }
        }
        due.is("fill of nine names and a fault", ordinary("hu,ia,jo,ka,li,mo,ni,om,pa,").fill(0, 2), BAD_TEXT);
        due.is("fill of nine names, the first with a fault", ordinary("hU,ia,jo,ka,li,mo,ni,om,pa").fill(0, 2), BAD_TEXT);
        due.is("fill of a full list with no text", full("").fill(0, 0), BAD_TEXT);
        due.is("fill of a full list with one letter", full("z").fill(0, 0), BAD_TEXT);
        due.is("fill of a full list with a listed name and a fault", full("ba,").fill(0, 0), BAD_TEXT);
    }

    private static void fillNotPossibleBeforeListIsFull() {
        due.promise(3, "fill, NOT_POSSIBLE before a list that would have more than 8");
        String seven = "ju,ka,li,mo,ni,om,pa";
        due.is("fill of seven, TOO_MANY alone", ordinary(seven).fill(0, 0), TOO_MANY);
        for (String text : NOT_POSSIBLE_TEXTS) {
            due.is("fill of " + text + " alone", ordinary(text).fill(0, 0), NOT_POSSIBLE);
            due.is("fill of " + text + " and seven", ordinary(text + "," + seven).fill(0, 0), NOT_POSSIBLE);
            due.is("fill of seven and " + text, ordinary(seven + "," + text).fill(0, 0), NOT_POSSIBLE);
        }
        due.is("fill of a full list, TOO_MANY alone", full("ae").fill(0, 0), TOO_MANY);
        due.is("fill of a full list with a listed name", full("ba").fill(0, 0), NOT_POSSIBLE);
        due.is("fill of a full list with a name of the coast", full("ab").fill(0, 0), NOT_POSSIBLE);
        due.is("fill of a full list with a name told twice", full("ae,ae").fill(0, 0), NOT_POSSIBLE);
    }

    /** 40 names are known, haha is retired, bibi stands on list 0 of coast 0, kaka on list 2; list 0 has room. */
    private static GaleNames allKnown(String text) {
        GaleNames x = new GaleNames();
        Due.fill(x, 0, 0, "haha,bibi");
        x.storm(0);
        x.harm(0, 30);
        x.endYear();
        Due.fill(x, 0, 2, "kaka");
        Due.fill(x, 1, 0, Offices.eight('a'));
        Due.fill(x, 1, 1, Offices.eight('b'));
        Due.fill(x, 1, 2, Offices.eight('c'));
        Due.fill(x, 0, 1, Offices.eight('d'));
        Due.fill(x, 0, 2, Offices.names(0, 5, 'e'));
        due.is("names known", x.count(1), 40);
        Due.pad(x, text);
        return x;
    }

    private static void fillNotPossibleBeforeAllAreKnown() {
        due.promise(3, "fill, NOT_POSSIBLE before more than 40 known names");
        due.is("fill of a 41st name, TOO_MANY alone", allKnown("zoe").fill(0, 0), TOO_MANY);
        String[] texts = {"haha", "bibi", "kaka", "ad", "hugo,hugo", "bibo", "ida,idaho"};
        for (String text : texts) {
            due.is("fill of zoe," + text, allKnown("zoe," + text).fill(0, 0), NOT_POSSIBLE);
            due.is("fill of " + text + ",zoe", allKnown(text + ",zoe").fill(0, 0), NOT_POSSIBLE);
        }
    }

    private static void storm() {
        due.promise(5, "storm, in order");
        for (int coast : new int[] {-1, 2}) {
            due.is("no coast, no names", new GaleNames().storm(coast), NO_SUCH);
            due.is("no coast, 16 storms", Offices.full().storm(coast), NO_SUCH);
        }
        due.is("16 storms and a name left: TOO_MANY alone", Offices.full().storm(0), TOO_MANY);
        due.is("16 storms and no name left", Offices.full().storm(1), NOT_POSSIBLE);
    }

    private static void harm() {
        due.promise(6, "harm, in order");
        for (int by : new int[] {0, 51, -1}) {
            due.is("no storm, and a harm out of range", new GaleNames().harm(0, by), NO_SUCH);
            due.is("a storm behind the last, and a harm out of range", Offices.ordinary().harm(1, by), NO_SUCH);
            due.is("a storm below the first, and a harm out of range", Offices.ordinary().harm(-1, by), NO_SUCH);
            due.is("a harm out of range alone", Offices.ordinary().harm(0, by), BAD_VALUE);
        }
    }

    private static void namesake() {
        due.promise(8, "namesake, in order");
        due.is("ten there, TOO_MANY alone", full("aa").namesake(), TOO_MANY);
        due.is("ten there, no text", full("").namesake(), BAD_TEXT);
        due.is("ten there, a fault", full("aa,").namesake(), BAD_TEXT);
        due.is("ten there, two names", full("aa,ba").namesake(), BAD_TEXT);
        due.is("40 known, TOO_MANY alone", allKnown("zoe").namesake(), TOO_MANY);
        due.is("40 known, a fault in a new name", allKnown("zoE").namesake(), BAD_TEXT);
        due.is("40 known, two new names", allKnown("zoe,yan").namesake(), BAD_TEXT);
        due.is("40 known, a known name and a new one", allKnown("aa,yan").namesake(), BAD_TEXT);
    }

    private static void apologise() {
        due.promise(9, "apologise, in order");
        for (int namesake : new int[] {-1, 0, 10}) {
            due.is("no namesake, to whom none is owed", new GaleNames().apologise(namesake), NO_SUCH);
        }
        due.is("an 11th namesake", Offices.full().apologise(10), NO_SUCH);
        due.is("none owed alone", Offices.full().apologise(9), NOT_POSSIBLE);
    }

    private static void views() {
        for (int what : new int[] {-1, 7, Integer.MIN_VALUE, Integer.MAX_VALUE}) {
            due.promise(11, "of, in order");
            due.is("no name and no such thing", Offices.ordinary().of(6, what), NO_SUCH);
            due.is("a name below the first and no such thing", Offices.ordinary().of(-1, what), NO_SUCH);
            due.is("no such thing alone", Offices.ordinary().of(5, what), BAD_VALUE);
            due.promise(14, "ofStorm, in order");
            due.is("no storm and no such thing", Offices.ordinary().ofStorm(1, what), NO_SUCH);
            due.is("a storm below the first and no such thing", Offices.ordinary().ofStorm(-1, what), NO_SUCH);
            due.is("no such thing alone", Offices.ordinary().ofStorm(0, what), BAD_VALUE);
            due.promise(15, "ofNamesake, in order");
            due.is("no namesake and no such thing", Offices.ordinary().ofNamesake(1, what), NO_SUCH);
            due.is("a namesake below the first and no such thing", Offices.ordinary().ofNamesake(-1, what), NO_SUCH);
            due.is("no such thing alone", Offices.ordinary().ofNamesake(0, what), BAD_VALUE);
        }
    }

    private static void left() {
        due.promise(22, "left, in order");
        for (int ahead : new int[] {-1, 3}) {
            due.is("no coast, and too far ahead", Offices.ordinary().left(2, ahead), NO_SUCH);
            due.is("a coast below the first, and too far ahead", Offices.ordinary().left(-1, ahead), NO_SUCH);
            due.is("too far ahead alone", Offices.ordinary().left(1, ahead), BAD_VALUE);
        }
    }

    private static void put() {
        due.promise(25, "put, in order");
        GaleNames x = new GaleNames();
        Due.append(x, Offices.letters(80));
        due.is("full, TOO_MANY alone", x.put('a'), TOO_MANY);
        long[] bad = {0, 32, 127, 255, -1, 1L << 40 | 'a', Due.packed(" bcdefgh"), Due.packed("abcdefg ")};
        for (long characters : bad) due.is("full, put(" + characters + ")", x.put(characters), BAD_VALUE);
        GaleNames y = new GaleNames();
        Due.append(y, Offices.letters(73));
        due.is("73, and eight, TOO_MANY alone", y.put(Due.packed("abcdefgh")), TOO_MANY);
        due.is("73, and eight with a bad one first", y.put(Due.packed(" bcdefgh")), BAD_VALUE);
        due.is("73, and eight with a bad one last", y.put(Due.packed("abcdefg ")), BAD_VALUE);
    }

    private static void restore() {
        due.promise(30, "restore, in order");
        for (int slot : new int[] {-1, 2}) {
            due.is("no slot, where nothing is saved", new GaleNames().restore(slot), BAD_VALUE);
        }
        for (int slot : new int[] {0, 1}) due.is("nothing saved alone", new GaleNames().restore(slot), NOT_POSSIBLE);
    }

    /** Where a call can answer NONE, and where an error comes first. */
    private static void none() {
        due.promise(14, "ofStorm, NONE");
        due.is("a storm without a twin", Offices.ordinary().ofStorm(0, 3), NONE);
        due.is("no storm has no twin", Offices.ordinary().ofStorm(1, 3), NO_SUCH);
        due.is("no storm of an empty office has no twin", new GaleNames().ofStorm(0, 3), NO_SUCH);
        due.promise(19, "find, NONE");
        due.is("an unknown name", ordinary("zoe").find(), NONE);
        due.is("an unknown name with a fault", ordinary("zoe,").find(), BAD_TEXT);
        due.is("two unknown names", ordinary("zoe,yan").find(), BAD_TEXT);
        due.promise(21, "next, NONE");
        due.is("a coast without names", new GaleNames().next(1), NONE);
        due.is("no coast", new GaleNames().next(2), NO_SUCH);
        due.promise(27, "fault, NONE");
        due.is("a text with no fault", ordinary("zoe").fault(), NONE);
        due.is("a text with one", ordinary("zoe,").fault(), 4);
    }
}
