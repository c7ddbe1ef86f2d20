/** Promises 1 to 9: a new object, and the changes. */
public final class ChangesTest {
    private static final int NO_SUCH = GaleNames.NO_SUCH, BAD_VALUE = GaleNames.BAD_VALUE;
    private static final int BAD_TEXT = GaleNames.BAD_TEXT, TOO_MANY = GaleNames.TOO_MANY;
    private static final int NOT_POSSIBLE = GaleNames.NOT_POSSIBLE, NONE = GaleNames.NONE;
    private static final Due due = new Due();

    public static void main(String[] args) {
        constants();
        newObject();
        set();
        fill();
        fillRefuses();
        fillAlike();
        fillTooMany();
        strike();
        storm();
        stormsOfAYear();
        harm();
        endYear();
        endYearApologies();
        endYearSumsBothCoasts();
        lastYear();
        namesake();
        namesakeTooMany();
        apologise();
        errorsChangeNothing();
        due.end();
    }

    private static void constants() {
        due.promise(0, "constants");
        due.is("NO_SUCH", GaleNames.NO_SUCH, -1);
        due.is("BAD_VALUE", GaleNames.BAD_VALUE, -2);
        due.is("BAD_TEXT", GaleNames.BAD_TEXT, -3);
        due.is("TOO_MANY", GaleNames.TOO_MANY, -4);
        due.is("NOT_POSSIBLE", GaleNames.NOT_POSSIBLE, -5);
        due.is("NONE", GaleNames.NONE, -6);
        due.is("HARM", GaleNames.HARM, 0);
        due.is("SORRY", GaleNames.SORRY, 1);
        due.is("LIKE", GaleNames.LIKE, 2);
    }

    private static void newObject() {
        due.promise(1, "a new object");
        GaleNames x = new GaleNames();
        int[] counts = {0, 0, 0, 0, 0, 0, 0, 0, 0, 30, 10, 3, 0, 0};
        for (int what = 0; what < counts.length; what++) due.is("count(" + what + ")", x.count(what), counts[what]);
        for (int coast = 0; coast < 2; coast++) {
            for (int list = 0; list < 3; list++) due.listIs(x, coast, list);
            due.is("next", x.next(coast), NONE);
        }
        due.is("undo()", x.undo(), NOT_POSSIBLE);
        due.is("restore(0)", x.restore(0), NOT_POSSIBLE);
        due.is("restore(1)", x.restore(1), NOT_POSSIBLE);
        due.is("of(0, 0)", x.of(0, 0), NO_SUCH);
        due.is("ofStorm(0, 0)", x.ofStorm(0, 0), NO_SUCH);
        due.is("ofNamesake(0, 0)", x.ofNamesake(0, 0), NO_SUCH);
        GaleNames y = new GaleNames();
        Due.fill(x, 0, 0, "anna");
        due.is("another object: count(1)", y.count(1), 0);
    }

    private static void set() {
        due.promise(2, "set");
        GaleNames x = new GaleNames();
        int[] first = {30, 10, 3};
        int[] highest = {99, 99, 6};
        for (int setting = 0; setting < 3; setting++) {
            due.is("set(" + setting + ", 0)", x.set(setting, 0), BAD_VALUE);
            due.is("set(" + setting + ", highest + 1)", x.set(setting, highest[setting] + 1), BAD_VALUE);
            due.is("set(" + setting + ", lowest number)", x.set(setting, Integer.MIN_VALUE), BAD_VALUE);
            due.is("set(" + setting + ", highest number)", x.set(setting, Integer.MAX_VALUE), BAD_VALUE);
            due.is("set(" + setting + ", 1)", x.set(setting, 1), first[setting]);
            due.is("set(" + setting + ", highest)", x.set(setting, highest[setting]), 1);
            due.is("count(" + (9 + setting) + ")", x.count(9 + setting), highest[setting]);
            due.is("set(" + setting + ", 2)", x.set(setting, 2), highest[setting]);
        }
        due.is("set(-1, 5)", x.set(-1, 5), BAD_VALUE);
        due.is("set(3, 5)", x.set(3, 5), BAD_VALUE);
        due.is("set(lowest, 5)", x.set(Integer.MIN_VALUE, 5), BAD_VALUE);
        due.is("changes", x.count(13), 6);
        due.is("HARM", x.count(9), 2);
        due.is("SORRY", x.count(10), 2);
        due.is("LIKE", x.count(11), 2);
    }

    private static void fill() {
        due.promise(3, "fill");
        GaleNames x = new GaleNames();
        due.is("fill(0, 0)", Due.fill(x, 0, 0, "anna,bob"), 2);
        due.padIs(x, "");
        due.is("changes", x.count(13), 1);
        due.is("fill(0, 0) again", Due.fill(x, 0, 0, "cy"), 3);
        due.listIs(x, 0, 0, 0, 1, 2);
        due.is("fill(1, 2) with a known name", Due.fill(x, 1, 2, "dora,bob"), 2);
        due.listIs(x, 1, 2, 3, 1);
        due.is("known", x.count(1), 4);
        due.is("find(bob)", Due.find(x, "bob"), 1);
        due.is("find(dora)", Due.find(x, "dora"), 3);
        due.listIs(x, 0, 1);
        due.listIs(x, 0, 2);
        due.listIs(x, 1, 0);
        due.listIs(x, 1, 1);
        Due.pad(x, "ed");
        due.is("fill(-1, 0)", x.fill(-1, 0), NO_SUCH);
        due.is("fill(2, 0)", x.fill(2, 0), NO_SUCH);
        due.is("fill(0, -1)", x.fill(0, -1), NO_SUCH);
        due.is("fill(0, 3)", x.fill(0, 3), NO_SUCH);
        due.is("fill(highest, highest)", x.fill(Integer.MAX_VALUE, Integer.MAX_VALUE), NO_SUCH);
        due.is("fill(lowest, lowest)", x.fill(Integer.MIN_VALUE, Integer.MIN_VALUE), NO_SUCH);
        Due.pad(x, "ed,f");
        due.is("fill(2, 0) of a bad text", x.fill(2, 0), NO_SUCH);
        due.is("fill(0, 0) of a bad text", x.fill(0, 0), BAD_TEXT);
        due.padIs(x, "ed,f");
        x.wipe();
        due.is("fill(0, 0) of no text", x.fill(0, 0), BAD_TEXT);
        due.is("known yet", x.count(1), 4);
        due.is("changes yet", x.count(13), 3);
    }

    private static void fillRefuses() {
        due.promise(3, "fill, not possible");
        GaleNames x = new GaleNames();
        Due.fill(x, 0, 0, "anna,bob");
        Due.fill(x, 0, 1, "cyril");
        x.storm(0);
        x.harm(0, 30);
        due.is("endYear()", x.endYear(), 1);
        due.is("a retired name", Due.fill(x, 1, 0, "dora,anna"), NOT_POSSIBLE);
        due.padIs(x, "dora,anna");
        due.is("all or none: known", x.count(1), 3);
        due.listIs(x, 1, 0);
        due.is("a name that stands on the list", Due.fill(x, 0, 0, "bob"), NOT_POSSIBLE);
        due.is("a name that stands on another list of the coast", Due.fill(x, 0, 2, "cyril"), NOT_POSSIBLE);
        due.is("a name told twice", Due.fill(x, 1, 0, "dora,eve,dora"), NOT_POSSIBLE);
        due.is("a short name told twice", Due.fill(x, 1, 0, "ed,ed"), NOT_POSSIBLE);
        due.is("a name of the other coast", Due.fill(x, 1, 0, "cyril"), 1);
        x.strike(0, 0, 0);
        due.is("a name that was struck", Due.fill(x, 0, 2, "bob"), 1);
        due.is("a retired name before too many", Due.fill(x, 1, 0, "ga,ha,ia,ja,ka,la,ma,na,anna"), NOT_POSSIBLE);
    }

    private static void fillAlike() {
        due.promise(3, "fill, alike");
        GaleNames x = new GaleNames();
        Due.fill(x, 0, 0, "annabe");
        due.is("alike to one of the list", Due.fill(x, 0, 0, "bob,anno"), NOT_POSSIBLE);
        due.is("alike by just LIKE letters", Due.fill(x, 0, 0, "ann"), NOT_POSSIBLE);
        due.is("a name that is too short to be alike", Due.fill(x, 0, 0, "an"), 2);
        due.is("not alike by the third letter", Due.fill(x, 0, 0, "anton"), 3);
        due.is("alike to one of another list", Due.fill(x, 0, 1, "annika"), 1);
        due.is("alike to one of the other coast's list", Due.fill(x, 1, 0, "annelu"), 1);
        due.is("alike in the pad", Due.fill(x, 1, 1, "carla,dora,carlo"), NOT_POSSIBLE);
        x.set(GaleNames.LIKE, 5);
        due.is("not alike by five letters", Due.fill(x, 1, 1, "carla,dora,carlo"), 3);
        x.set(GaleNames.LIKE, 6);
        due.is("not alike: five letters only", Due.fill(x, 1, 2, "frank,franky"), 2);
        x.set(GaleNames.LIKE, 5);
        due.is("alike by five letters", Due.fill(x, 1, 2, "franka"), NOT_POSSIBLE);
        x.set(GaleNames.LIKE, 1);
        due.is("alike by one letter", Due.fill(x, 0, 2, "ida,io"), NOT_POSSIBLE);
        due.is("not alike by one letter", Due.fill(x, 0, 2, "ida,jo"), 2);
        x.set(GaleNames.LIKE, 2);
        due.is("names of two letters alike by two", Due.fill(x, 0, 2, "idun"), NOT_POSSIBLE);
        due.is("a short name may be the first letters", Due.fill(x, 0, 2, "jolly"), NOT_POSSIBLE);
    }

    private static void fillTooMany() {
        due.promise(3, "fill, too many");
        GaleNames x = new GaleNames();
        due.is("nine names", Due.fill(x, 0, 0, "aa,ba,ca,da,ea,fa,ga,ha,ia"), TOO_MANY);
        due.is("27 names", Due.fill(x, 0, 0, "aa,ba,ca,da,ea,fa,ga,ha,ia,ja,ka,la,ma,na,oa,pa,qa,ra,sa,ta,ua,va,wa,xa,ya,za,ab"), TOO_MANY);
        due.is("27 names, the last twice", Due.fill(x, 0, 0, "aa,ba,ca,da,ea,fa,ga,ha,ia,ja,ka,la,ma,na,oa,pa,qa,ra,sa,ta,ua,va,wa,xa,ya,za,aa"), NOT_POSSIBLE);
        due.is("eight names", Due.fill(x, 0, 0, "aa,ba,ca,da,ea,fa,ga,ha"), 8);
        due.is("one more", Due.fill(x, 0, 0, "ia"), TOO_MANY);
        due.padIs(x, "ia");
        due.is("two lists, 1", Due.fill(x, 0, 1, "ab,bb,cb,db,eb,fb,gb,hb"), 8);
        due.is("two lists, 2", Due.fill(x, 0, 2, "ac,bc,cc,dc,ec,fc,gc,hc"), 8);
        due.is("three lists", Due.fill(x, 1, 0, "ad,bd,cd,dd,ed,fd,gd,hd"), 8);
        due.is("39 names", Due.fill(x, 1, 1, "ae,be,ce,de,ee,fe,ge"), 7);
        due.is("41 names", Due.fill(x, 1, 2, "he,ie"), TOO_MANY);
        due.is("40 names and known ones", Due.fill(x, 1, 2, "he,aa,ba"), 3);
        due.is("known", x.count(1), 40);
        due.is("a 41st name", Due.fill(x, 1, 2, "ie"), TOO_MANY);
        due.is("a known one", Due.fill(x, 1, 2, "ab"), 4);
        due.is("find(he)", Due.find(x, "he"), 39);
    }

    private static void strike() {
        due.promise(4, "strike");
        GaleNames x = new GaleNames();
        Due.fill(x, 0, 0, "anna,bob,cyril");
        Due.fill(x, 1, 0, "anna,bob");
        due.is("strike(0, 0, 1)", x.strike(0, 0, 1), 1);
        due.listIs(x, 0, 0, 0, 2);
        due.listIs(x, 1, 0, 0, 1);
        due.is("not retired", x.of(1, 1), 0);
        due.is("strike(0, 0, 2)", x.strike(0, 0, 2), NO_SUCH);
        due.is("strike(0, 0, -1)", x.strike(0, 0, -1), NO_SUCH);
        due.is("strike(0, 0, highest)", x.strike(0, 0, Integer.MAX_VALUE), NO_SUCH);
        due.is("strike(2, 0, 0)", x.strike(2, 0, 0), NO_SUCH);
        due.is("strike(-1, 0, 0)", x.strike(-1, 0, 0), NO_SUCH);
        due.is("strike(0, 3, 0)", x.strike(0, 3, 0), NO_SUCH);
        due.is("strike(1, -1, 0)", x.strike(1, -1, 0), NO_SUCH);
        due.is("strike(0, 1, 0)", x.strike(0, 1, 0), NO_SUCH);
        due.is("changes", x.count(13), 3);
        due.is("strike(0, 0, 1), the last", x.strike(0, 0, 1), 2);
        due.is("strike(0, 0, 0)", x.strike(0, 0, 0), 0);
        due.listIs(x, 0, 0);
        due.is("known yet", x.count(1), 3);
        due.is("back at the end", Due.fill(x, 0, 0, "cyril,anna"), 2);
        due.listIs(x, 0, 0, 2, 0);
    }

    private static void storm() {
        due.promise(5, "storm");
        GaleNames x = new GaleNames();
        due.is("storm(0) with no names", x.storm(0), NOT_POSSIBLE);
        Due.fill(x, 0, 0, "anna,bob,cyril");
        Due.fill(x, 1, 0, "bob,dora");
        Due.fill(x, 0, 1, "ed");
        due.is("storm(2)", x.storm(2), NO_SUCH);
        due.is("storm(-1)", x.storm(-1), NO_SUCH);
        due.is("storm(highest)", x.storm(Integer.MAX_VALUE), NO_SUCH);
        due.is("storm(0)", x.storm(0), 0);
        due.is("storm(1)", x.storm(1), 1);
        due.is("storm(0) again", x.storm(0), 2);
        int[] names = {0, 1, 1};
        int[] coasts = {0, 1, 0};
        for (int i = 0; i < 3; i++) {
            due.is("ofStorm(" + i + ", 0)", x.ofStorm(i, 0), names[i]);
            due.is("ofStorm(" + i + ", 1)", x.ofStorm(i, 1), coasts[i]);
            due.is("ofStorm(" + i + ", 2)", x.ofStorm(i, 2), 0);
        }
        due.is("changes", x.count(13), 6);
        x.strike(0, 0, 0);
        Due.fill(x, 0, 0, "anna");
        due.is("a name that was given stays given", x.storm(0), 3);
        due.is("its name", x.ofStorm(3, 0), 2);
        due.is("none is left", x.storm(0), NOT_POSSIBLE);
        x.endYear();
        due.is("storm(1) of the year 1", x.storm(1), NOT_POSSIBLE);
        due.is("storm(0) of the year 1", x.storm(0), 0);
        due.is("its name", x.ofStorm(0, 0), 4);
        x.endYear();
        due.is("storm(0) of the year 2", x.storm(0), NOT_POSSIBLE);
        x.endYear();
        due.is("storm(0) of the year 3", x.storm(0), 0);
        due.is("its name, given in the year 0, too", x.ofStorm(0, 0), 1);
    }

    private static void stormsOfAYear() {
        due.promise(5, "storm, 16 in a year");
        GaleNames x = new GaleNames();
        Due.fill(x, 0, 0, "aa,ba,ca,da,ea,fa,ga,ha");
        Due.fill(x, 1, 0, "aa,ba,ca,da,ea,fa,ga,ha");
        for (int i = 0; i < 16; i++) due.is("storm " + i, x.storm(i & 1), i);
        due.is("storm(0), no name before too many", x.storm(0), NOT_POSSIBLE);
        x.strike(0, 0, 0);
        Due.fill(x, 0, 0, "zoe");
        due.is("next(0)", x.next(0), 8);
        due.is("left(0, 0)", x.left(0, 0), 1);
        due.is("storm(0), too many", x.storm(0), TOO_MANY);
        due.is("storm(1), no name", x.storm(1), NOT_POSSIBLE);
        due.is("storms", x.count(3), 16);
        due.is("twins", x.count(5), 8);
        x.undo();
        x.undo();
        x.undo();
        due.is("storms when one is undone", x.count(3), 15);
        due.is("storm(1)", x.storm(1), 15);
    }

    private static void harm() {
        due.promise(6, "harm");
        GaleNames x = new GaleNames();
        Due.fill(x, 0, 0, "anna,bob");
        x.storm(0);
        x.storm(0);
        due.is("harm(0, 1)", x.harm(0, 1), 1);
        due.is("harm(0, 50)", x.harm(0, 50), 51);
        due.is("harm(1, 7)", x.harm(1, 7), 7);
        due.is("harm(0, 0)", x.harm(0, 0), BAD_VALUE);
        due.is("harm(0, 51)", x.harm(0, 51), BAD_VALUE);
        due.is("harm(0, -1)", x.harm(0, -1), BAD_VALUE);
        due.is("harm(2, 1)", x.harm(2, 1), NO_SUCH);
        due.is("harm(2, 0)", x.harm(2, 0), NO_SUCH);
        due.is("harm(-1, 1)", x.harm(-1, 1), NO_SUCH);
        due.is("ofStorm(0, 2)", x.ofStorm(0, 2), 51);
        due.is("ofStorm(1, 2)", x.ofStorm(1, 2), 7);
        due.is("of(0, 4)", x.of(0, 4), 51);
        due.is("changes", x.count(13), 6);
    }

    private static void endYear() {
        due.promise(7, "endYear");
        GaleNames x = new GaleNames();
        Due.fill(x, 0, 0, "anna,bob,cyril,dora");
        Due.fill(x, 1, 0, "ed");
        Due.fill(x, 1, 2, "anna,cyril");
        for (int i = 0; i < 4; i++) x.storm(0);
        x.harm(0, 30);
        x.harm(1, 29);
        x.harm(2, 31);
        due.is("endYear()", x.endYear(), 2);
        due.is("year", x.count(0), 1);
        due.is("storms", x.count(3), 0);
        due.is("storms so far", x.count(4), 4);
        due.is("retired", x.count(2), 2);
        int[] retired = {1, 0, 1, 0, 0};
        for (int name = 0; name < 5; name++) due.is("of(" + name + ", 1)", x.of(name, 1), retired[name]);
        due.listIs(x, 0, 0, 1, 3);
        due.listIs(x, 1, 0, 4);
        due.listIs(x, 1, 2);
        due.is("endYear() without storms", x.endYear(), 0);
        x.endYear();
        due.is("year", x.count(0), 3);
        x.storm(0);
        due.is("harm of another year does not count", x.harm(0, 1), 1);
        x.set(GaleNames.HARM, 1);
        due.is("endYear() with HARM 1", x.endYear(), 1);
        due.listIs(x, 0, 0, 3);
        due.is("retired", x.count(2), 3);
    }

    private static void endYearApologies() {
        due.promise(7, "endYear, apologies");
        GaleNames x = new GaleNames();
        Due.fill(x, 0, 0, "anna,bob,cyril");
        Due.namesake(x, "anna");
        Due.namesake(x, "bob");
        Due.namesake(x, "anna");
        Due.namesake(x, "cyril");
        Due.namesake(x, "zoe");
        for (int i = 0; i < 3; i++) x.storm(0);
        x.harm(0, 10);
        x.harm(1, 9);
        x.harm(2, 50);
        x.endYear();
        int[] owed = {1, 0, 1, 1, 0};
        for (int i = 0; i < 5; i++) due.is("ofNamesake(" + i + ", 1)", x.ofNamesake(i, 1), owed[i]);
        due.is("owed", x.count(7), 3);
        due.is("retired", x.count(2), 1);
        x.endYear();
        x.endYear();
        due.is("owed after quiet years", x.count(7), 3);
        x.storm(0);
        x.harm(0, 10);
        x.endYear();
        due.is("one more is owed", x.ofNamesake(0, 1), 2);
        due.is("one more is owed", x.ofNamesake(2, 1), 2);
        x.set(GaleNames.SORRY, 99);
        x.set(GaleNames.HARM, 1);
        x.endYear();
        x.endYear();
        x.storm(0);
        x.harm(0, 50);
        x.harm(0, 48);
        due.is("endYear() of a retired name below SORRY", x.endYear(), 1);
        due.is("owed below SORRY", x.ofNamesake(0, 1), 2);
    }

    private static void endYearSumsBothCoasts() {
        due.promise(7, "endYear, harm of both coasts");
        GaleNames x = new GaleNames();
        Due.fill(x, 0, 0, "anna,bob");
        Due.fill(x, 1, 0, "bob,anna");
        Due.namesake(x, "bob");
        x.storm(0);
        x.storm(0);
        x.storm(1);
        x.harm(1, 14);
        x.harm(2, 16);
        x.harm(0, 29);
        x.set(GaleNames.SORRY, 30);
        due.is("endYear()", x.endYear(), 1);
        due.is("of(1, 1)", x.of(1, 1), 1);
        due.is("of(0, 1)", x.of(0, 1), 0);
        due.is("owed once", x.ofNamesake(0, 1), 1);
        due.listIs(x, 0, 0, 0);
        due.listIs(x, 1, 0, 0);
    }

    /** It takes more calls than an object is promised for, but no other way leads there. */
    private static void lastYear() {
        due.promise(7, "endYear, the last year");
        GaleNames x = new GaleNames();
        for (int year = 0; year < 999; year++) due.is("endYear() of " + year, x.endYear(), 0);
        due.is("year", x.count(0), 999);
        due.is("endYear() of 999", x.endYear(), NOT_POSSIBLE);
        due.is("year yet", x.count(0), 999);
    }

    private static void namesake() {
        due.promise(8, "namesake");
        GaleNames x = new GaleNames();
        Due.fill(x, 0, 0, "anna");
        due.is("namesake() of a known name", Due.namesake(x, "anna"), 0);
        due.padIs(x, "");
        due.is("namesake() of a new name", Due.namesake(x, "bob"), 1);
        due.is("known", x.count(1), 2);
        due.is("find(bob)", Due.find(x, "bob"), 1);
        due.is("another of that name", Due.namesake(x, "bob"), 2);
        due.is("known yet", x.count(1), 2);
        due.is("two names", Due.namesake(x, "cyril,dora"), BAD_TEXT);
        due.padIs(x, "cyril,dora");
        due.is("the same name twice", Due.namesake(x, "anna,anna"), BAD_TEXT);
        due.is("a bad text", Due.namesake(x, "a"), BAD_TEXT);
        due.is("no text", Due.namesake(x, ""), BAD_TEXT);
        due.is("changes", x.count(13), 4);
        due.is("known yet", x.count(1), 2);
        int[] names = {0, 1, 1};
        for (int i = 0; i < 3; i++) {
            due.is("ofNamesake(" + i + ", 0)", x.ofNamesake(i, 0), names[i]);
            due.is("ofNamesake(" + i + ", 1)", x.ofNamesake(i, 1), 0);
            due.is("ofNamesake(" + i + ", 2)", x.ofNamesake(i, 2), 0);
        }
        due.is("stands on no list", x.of(1, 2), 0);
        x.storm(0);
        x.harm(0, 50);
        x.endYear();
        due.is("namesake() of a retired name", Due.namesake(x, "anna"), 3);
    }

    private static void namesakeTooMany() {
        due.promise(8, "namesake, too many");
        GaleNames x = new GaleNames();
        for (int i = 0; i < 10; i++) due.is("namesake " + i, Due.namesake(x, "a" + (char) ('a' + i)), i);
        due.is("an 11th namesake", Due.namesake(x, "aa"), TOO_MANY);
        due.is("an 11th namesake of a bad text", Due.namesake(x, "aa,"), BAD_TEXT);
        due.is("namesakes", x.count(6), 10);
        GaleNames y = new GaleNames();
        for (int list = 0; list < 5; list++) {
            StringBuilder names = new StringBuilder();
            for (int i = 0; i < 8; i++) names.append(i == 0 ? "" : ",").append((char) ('a' + i)).append((char) ('a' + list));
            due.is("fill of 8 names", Due.fill(y, list / 3, list % 3, names.toString()), 8);
        }
        due.is("known", y.count(1), 40);
        due.is("namesake() with a 41st name", Due.namesake(y, "zz"), TOO_MANY);
        due.padIs(y, "zz");
        due.is("namesake() with a known name", Due.namesake(y, "he"), 0);
    }

    private static void apologise() {
        due.promise(9, "apologise");
        GaleNames x = new GaleNames();
        Due.fill(x, 0, 0, "anna,bob");
        Due.namesake(x, "anna");
        Due.namesake(x, "bob");
        due.is("apologise(0) with none owed", x.apologise(0), NOT_POSSIBLE);
        due.is("apologise(2)", x.apologise(2), NO_SUCH);
        due.is("apologise(-1)", x.apologise(-1), NO_SUCH);
        x.set(GaleNames.HARM, 99);
        for (int year = 0; year < 4; year++) {
            x.storm(0);
            x.harm(0, 10);
            x.endYear();
        }
        due.is("owed", x.ofNamesake(0, 1), 2);
        due.is("apologise(0)", x.apologise(0), 1);
        due.is("written", x.ofNamesake(0, 2), 1);
        due.is("apologise(0) again", x.apologise(0), 0);
        due.is("apologise(0) with none owed", x.apologise(0), NOT_POSSIBLE);
        due.is("apologise(1) with none owed", x.apologise(1), NOT_POSSIBLE);
        due.is("owed", x.ofNamesake(0, 1), 0);
        due.is("written", x.ofNamesake(0, 2), 2);
        due.is("letters of all", x.count(8), 2);
        x.undo();
        due.is("letters when one is undone", x.count(8), 1);
        due.is("owed when one is undone", x.count(7), 1);
    }

    private static void errorsChangeNothing() {
        due.promise(0, "errors change nothing");
        GaleNames x = new GaleNames();
        Due.fill(x, 0, 0, "anna");
        x.storm(0);
        Due.pad(x, "anna,bob");
        int[] answers = {
            x.set(0, 100), x.fill(0, 1), x.strike(0, 0, 1), x.storm(0), x.harm(0, 51),
            x.namesake(), x.apologise(0), x.write(0, 3), x.put(0L), x.save(2), x.restore(2), x.restore(1)
        };
        for (int i = 0; i < answers.length; i++) due.is("error " + i + " < 0", answers[i] < 0 ? 1 : 0, 1);
        due.padIs(x, "anna,bob");
        due.is("changes", x.count(13), 2);
        due.is("known", x.count(1), 1);
        due.is("storms", x.count(3), 1);
        due.listIs(x, 0, 0, 0);
    }
}
