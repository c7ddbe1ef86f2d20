/** Promises 11 to 18: what there is. */
public final class ViewsTest {
    private static final int NO_SUCH = GaleNames.NO_SUCH, BAD_VALUE = GaleNames.BAD_VALUE, NONE = GaleNames.NONE;
    private static final Due due = new Due();

    public static void main(String[] args) {
        of();
        ofAlike();
        letter();
        listed();
        ofStorm();
        ofNamesake();
        ranked();
        sign();
        count();
        due.end();
    }

    private static void of() {
        due.promise(11, "of");
        GaleNames x = new GaleNames();
        Due.fill(x, 0, 0, "ab,bobby");
        Due.fill(x, 1, 0, "carlos,ab");
        Due.fill(x, 0, 2, "carlos");
        Due.namesake(x, "ab");
        Due.namesake(x, "zoe");
        Due.namesake(x, "ab");
        int[] lengths = {2, 5, 6, 3};
        int[] coasts = {3, 1, 3, 0};
        int[] namesakes = {2, 0, 0, 1};
        for (int name = 0; name < 4; name++) {
            due.is("of(" + name + ", 0)", x.of(name, 0), lengths[name]);
            due.is("of(" + name + ", 1)", x.of(name, 1), 0);
            due.is("of(" + name + ", 2)", x.of(name, 2), coasts[name]);
            due.is("of(" + name + ", 3)", x.of(name, 3), 0);
            due.is("of(" + name + ", 4)", x.of(name, 4), 0);
            due.is("of(" + name + ", 5)", x.of(name, 5), namesakes[name]);
        }
        x.strike(0, 2, 0);
        due.is("of(2, 2) on coast 1 alone", x.of(2, 2), 2);
        x.set(GaleNames.HARM, 99);
        x.storm(0);
        x.storm(1);
        x.storm(1);
        x.harm(0, 5);
        x.harm(2, 7);
        due.is("of(0, 3) with twins", x.of(0, 3), 2);
        due.is("of(0, 4) with twins", x.of(0, 4), 12);
        x.endYear();
        x.endYear();
        x.endYear();
        x.storm(0);
        x.harm(0, 3);
        due.is("of(0, 3) so far", x.of(0, 3), 3);
        due.is("of(0, 4) so far", x.of(0, 4), 15);
        due.is("of(2, 3)", x.of(2, 3), 1);
        due.is("of(2, 4)", x.of(2, 4), 0);
        due.is("of(4, 0)", x.of(4, 0), NO_SUCH);
        due.is("of(4, 7)", x.of(4, 7), NO_SUCH);
        due.is("of(-1, 0)", x.of(-1, 0), NO_SUCH);
        due.is("of(40, 0)", x.of(40, 0), NO_SUCH);
        due.is("of(highest, 0)", x.of(Integer.MAX_VALUE, 0), NO_SUCH);
        due.is("of(0, 7)", x.of(0, 7), BAD_VALUE);
        due.is("of(0, -1)", x.of(0, -1), BAD_VALUE);
        due.is("of(0, lowest)", x.of(0, Integer.MIN_VALUE), BAD_VALUE);
    }

    private static void ofAlike() {
        due.promise(11, "of, alike");
        GaleNames x = new GaleNames();
        Due.fill(x, 0, 0, "anna");
        Due.fill(x, 0, 1, "ann");
        Due.fill(x, 0, 2, "annika,an");
        Due.fill(x, 1, 0, "andrea,bob");
        int[] byThree = {2, 2, 2, 0, 0, 0};
        int[] byFour = {0, 0, 0, 0, 0, 0};
        int[] byTwo = {4, 4, 4, 4, 4, 0};
        for (int name = 0; name < 6; name++) due.is("of(" + name + ", 6)", x.of(name, 6), byThree[name]);
        x.storm(0);
        x.harm(0, 50);
        x.endYear();
        due.is("a retired one counts: of(1, 6)", x.of(1, 6), 2);
        due.is("for a retired one: of(0, 6)", x.of(0, 6), 2);
        x.set(GaleNames.LIKE, 4);
        for (int name = 0; name < 6; name++) due.is("by four: of(" + name + ", 6)", x.of(name, 6), byFour[name]);
        x.set(GaleNames.LIKE, 2);
        for (int name = 0; name < 6; name++) due.is("by two: of(" + name + ", 6)", x.of(name, 6), byTwo[name]);
        x.set(GaleNames.LIKE, 1);
        due.is("by one: of(0, 6)", x.of(0, 6), 4);
        due.is("by one: of(5, 6)", x.of(5, 6), 0);
    }

    private static void letter() {
        due.promise(12, "letter");
        GaleNames x = new GaleNames();
        Due.fill(x, 0, 0, "az,mnopqr");
        due.is("letter(0, 0)", x.letter(0, 0), 'a');
        due.is("letter(0, 1)", x.letter(0, 1), 'z');
        due.is("letter(0, 2)", x.letter(0, 2), NO_SUCH);
        for (int i = 0; i < 6; i++) due.is("letter(1, " + i + ")", x.letter(1, i), 'm' + i);
        due.is("letter(1, 6)", x.letter(1, 6), NO_SUCH);
        due.is("letter(1, -1)", x.letter(1, -1), NO_SUCH);
        due.is("letter(1, highest)", x.letter(1, Integer.MAX_VALUE), NO_SUCH);
        due.is("letter(1, lowest)", x.letter(1, Integer.MIN_VALUE), NO_SUCH);
        due.is("letter(2, 0)", x.letter(2, 0), NO_SUCH);
        due.is("letter(-1, 0)", x.letter(-1, 0), NO_SUCH);
        GaleNames y = new GaleNames();
        Due.fill(y, 0, 0, "abcdef,ghijkl,mnopqr,stuvwx,yz");
        for (int i = 0; i < 26; i++) due.is("letter " + i, y.letter(i / 6, i % 6), 'a' + i);
    }

    private static void listed() {
        due.promise(13, "listed");
        GaleNames x = new GaleNames();
        String[] names = {"ad", "be", "cf", "dg", "eh", "fi"};
        for (int i = 0; i < 6; i++) Due.fill(x, i / 3, i % 3, names[i]);
        for (int i = 0; i < 6; i++) due.listIs(x, i / 3, i % 3, i);
        due.is("listed(0, 0, -1)", x.listed(0, 0, -1), NO_SUCH);
        due.is("listed(0, 3, 0)", x.listed(0, 3, 0), NO_SUCH);
        due.is("listed(0, -1, 0)", x.listed(0, -1, 0), NO_SUCH);
        due.is("listed(1, -1, 0)", x.listed(1, -1, 0), NO_SUCH);
        due.is("listed(2, 0, 0)", x.listed(2, 0, 0), NO_SUCH);
        due.is("listed(-1, 0, 0)", x.listed(-1, 0, 0), NO_SUCH);
        due.is("listed(-1, 3, 0)", x.listed(-1, 3, 0), NO_SUCH);
        due.is("listed(0, 0, 8)", x.listed(0, 0, 8), NO_SUCH);
        due.is("listed(0, 0, highest)", x.listed(0, 0, Integer.MAX_VALUE), NO_SUCH);
    }

    private static void ofStorm() {
        due.promise(14, "ofStorm");
        GaleNames x = new GaleNames();
        Due.fill(x, 0, 0, "anna,bob,cyril");
        Due.fill(x, 1, 0, "bob,anna,dora");
        for (int i = 0; i < 3; i++) x.storm(0);
        for (int i = 0; i < 3; i++) x.storm(1);
        x.harm(4, 9);
        int[] names = {0, 1, 2, 1, 0, 3};
        int[] twins = {4, 3, NONE, 1, 0, NONE};
        for (int i = 0; i < 6; i++) {
            due.is("ofStorm(" + i + ", 0)", x.ofStorm(i, 0), names[i]);
            due.is("ofStorm(" + i + ", 1)", x.ofStorm(i, 1), i / 3);
            due.is("ofStorm(" + i + ", 2)", x.ofStorm(i, 2), i == 4 ? 9 : 0);
            due.is("ofStorm(" + i + ", 3)", x.ofStorm(i, 3), twins[i]);
        }
        due.is("ofStorm(0, 4)", x.ofStorm(0, 4), BAD_VALUE);
        due.is("ofStorm(0, -1)", x.ofStorm(0, -1), BAD_VALUE);
        due.is("ofStorm(6, 0)", x.ofStorm(6, 0), NO_SUCH);
        due.is("ofStorm(6, 4)", x.ofStorm(6, 4), NO_SUCH);
        due.is("ofStorm(-1, 0)", x.ofStorm(-1, 0), NO_SUCH);
        x.endYear();
        due.is("a storm of another year", x.ofStorm(0, 0), NO_SUCH);
    }

    private static void ofNamesake() {
        due.promise(15, "ofNamesake");
        GaleNames x = new GaleNames();
        Due.fill(x, 0, 0, "anna,bob");
        Due.namesake(x, "bob");
        Due.namesake(x, "anna");
        x.storm(0);
        x.harm(0, 20);
        x.endYear();
        due.is("ofNamesake(0, 0)", x.ofNamesake(0, 0), 1);
        due.is("ofNamesake(1, 0)", x.ofNamesake(1, 0), 0);
        due.is("ofNamesake(0, 1)", x.ofNamesake(0, 1), 0);
        due.is("ofNamesake(1, 1)", x.ofNamesake(1, 1), 1);
        x.apologise(1);
        due.is("ofNamesake(1, 1) then", x.ofNamesake(1, 1), 0);
        due.is("ofNamesake(1, 2) then", x.ofNamesake(1, 2), 1);
        due.is("ofNamesake(0, 2)", x.ofNamesake(0, 2), 0);
        due.is("ofNamesake(0, 3)", x.ofNamesake(0, 3), BAD_VALUE);
        due.is("ofNamesake(0, -1)", x.ofNamesake(0, -1), BAD_VALUE);
        due.is("ofNamesake(2, 0)", x.ofNamesake(2, 0), NO_SUCH);
        due.is("ofNamesake(2, 3)", x.ofNamesake(2, 3), NO_SUCH);
        due.is("ofNamesake(-1, 0)", x.ofNamesake(-1, 0), NO_SUCH);
    }

    private static void ranked() {
        due.promise(16, "ranked");
        GaleNames x = new GaleNames();
        String[] names = {"zoe", "bo", "anna", "ann", "bob", "an", "annaa", "ax", "annb"};
        for (String name : names) Due.namesake(x, name);
        int[] order = {5, 3, 2, 6, 8, 7, 1, 4, 0};
        for (int rank = 0; rank < order.length; rank++) due.is("ranked(" + rank + ")", x.ranked(rank), order[rank]);
        rankedFirst();
        due.is("ranked(9)", x.ranked(9), NO_SUCH);
        due.is("ranked(-1)", x.ranked(-1), NO_SUCH);
        due.is("ranked(highest)", x.ranked(Integer.MAX_VALUE), NO_SUCH);
        due.is("ranked(lowest)", x.ranked(Integer.MIN_VALUE), NO_SUCH);
    }

    /** The name that came first is neither the first nor the last one. */
    private static void rankedFirst() {
        GaleNames x = new GaleNames();
        Due.fill(x, 0, 0, "bb,aa,zz,bbb");
        int[] order = {1, 0, 3, 2};
        for (int rank = 0; rank < order.length; rank++) due.is("ranked(" + rank + ")", x.ranked(rank), order[rank]);
        x.storm(0);
        x.harm(0, 30);
        x.endYear();
        due.is("ranked(1) that is retired", x.ranked(1), 0);
    }

    private static void sign() {
        due.promise(17, "sign");
        GaleNames x = new GaleNames();
        due.is("sign(0) of no text", x.sign(0), NO_SUCH);
        Due.pad(x, "!a,~");
        due.is("sign(0)", x.sign(0), '!');
        due.is("sign(1)", x.sign(1), 'a');
        due.is("sign(2)", x.sign(2), ',');
        due.is("sign(3)", x.sign(3), '~');
        due.is("sign(4)", x.sign(4), NO_SUCH);
        due.is("sign(-1)", x.sign(-1), NO_SUCH);
        due.is("sign(highest)", x.sign(Integer.MAX_VALUE), NO_SUCH);
        x.wipe();
        due.is("sign(0) of a text that was wiped", x.sign(0), NO_SUCH);
    }

    private static void count() {
        due.promise(18, "count");
        GaleNames x = new GaleNames();
        Due.fill(x, 0, 0, "anna,bob");
        Due.fill(x, 1, 0, "bob,anna,cyril");
        Due.namesake(x, "bob");
        Due.namesake(x, "anna");
        Due.namesake(x, "dora");
        x.storm(0);
        x.harm(0, 40);
        x.storm(0);
        x.harm(1, 15);
        x.endYear();
        x.apologise(1);
        x.endYear();
        x.endYear();
        x.set(GaleNames.HARM, 31);
        x.set(GaleNames.SORRY, 32);
        x.set(GaleNames.LIKE, 4);
        x.storm(1);
        x.storm(0);
        x.storm(1);
        Due.pad(x, "zz");
        int[] counts = {3, 4, 1, 3, 5, 1, 3, 1, 1, 31, 32, 4, 2, 6};
        for (int what = 0; what < counts.length; what++) due.is("count(" + what + ")", x.count(what), counts[what]);
        due.is("count(14)", x.count(14), BAD_VALUE);
        due.is("count(-1)", x.count(-1), BAD_VALUE);
        due.is("count(lowest)", x.count(Integer.MIN_VALUE), BAD_VALUE);
        x.undo();
        due.is("count(13) after undo", x.count(13), 5);
        due.is("count(4) after undo", x.count(4), 4);
    }
}
