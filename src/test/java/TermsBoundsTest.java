/** The sentences of the chapter "Terms", each with the cases at its edge; the tests stand in the document's order. */
public final class TermsBoundsTest {
    private static final int NO_SUCH = GaleNames.NO_SUCH, BAD_TEXT = GaleNames.BAD_TEXT;
    private static final int NOT_POSSIBLE = GaleNames.NOT_POSSIBLE, NONE = GaleNames.NONE;
    private static final int HARM = GaleNames.HARM, SORRY = GaleNames.SORRY, LIKE = GaleNames.LIKE;
    private static final Due due = new Due();

    public static void main(String[] args) {
        setsAreMasks();
        harmAtFirst();
        sorryAtFirst();
        likeAtFirst();
        leastAndGreatestHarm();
        leastAndGreatestSorry();
        nameLengths();
        nameLetters();
        commas();
        theFirstFault();
        textEndsTooEarly();
        nameNumbers();
        retiredOrNot();
        alikeByEachNumberOfLetters();
        alikeWithFewerLetters();
        sameNameIsNotAlike();
        alikeOnOneListOnly();
        listOfTheYear();
        onceOnACoast();
        firstNameNotGiven();
        givenThereInThisYear();
        stormNumbers();
        twins();
        harmOfBothCoasts();
        harmOfThisYear();
        muchHarm();
        oneApologyMore();
        eachNamesakeIsOwed();
        retiredOffAllLists();
        harmAndSorryApart();
        afterTheYear();
        due.end();
    }

    private static void sentence(String sentence) {
        due.promise(0, sentence);
    }

    /** An office with one storm on coast 0, anna, with so much harm, and a namesake of hers. */
    private static GaleNames annaWith(int harm) {
        GaleNames x = new GaleNames();
        Due.fill(x, 0, 0, "anna,bob");
        Due.namesake(x, "anna");
        x.storm(0);
        for (int left = harm; left > 0; left -= 50) x.harm(0, Math.min(left, 50));
        return x;
    }

    private static void setsAreMasks() {
        sentence("sets of coasts are bit masks");
        for (int coasts = 0; coasts < 4; coasts++) {
            GaleNames x = new GaleNames();
            Due.namesake(x, "anna");
            if ((coasts & 1) != 0) Due.fill(x, 0, 2, "anna");
            if ((coasts & 2) != 0) Due.fill(x, 1, 1, "anna");
            due.is("of(0, 2)", x.of(0, 2), coasts);
        }
    }

    private static void harmAtFirst() {
        sentence("HARM is 30 at first");
        due.is("endYear() by a harm of 29", annaWith(29).endYear(), 0);
        due.is("endYear() by a harm of 30", annaWith(30).endYear(), 1);
        due.is("count(9)", new GaleNames().count(9), 30);
        due.is("set", new GaleNames().set(HARM, 99), 30);
    }

    private static int owedBy(GaleNames x) {
        x.endYear();
        return x.count(7);
    }

    private static void sorryAtFirst() {
        sentence("SORRY is 10 at first");
        due.is("owed by a harm of 9", owedBy(annaWith(9)), 0);
        due.is("owed by a harm of 10", owedBy(annaWith(10)), 1);
        due.is("count(10)", new GaleNames().count(10), 10);
        due.is("set", new GaleNames().set(SORRY, 99), 10);
    }

    private static void likeAtFirst() {
        sentence("LIKE is 3 at first");
        due.is("alike by two letters", Due.fill(new GaleNames(), 0, 0, "anton,andrea"), 2);
        due.is("alike by three letters", Due.fill(new GaleNames(), 0, 0, "anton,antje"), NOT_POSSIBLE);
        due.is("count(11)", new GaleNames().count(11), 3);
        due.is("set", new GaleNames().set(LIKE, 6), 3);
    }

    private static int retiredBy(int limit, int harm) {
        GaleNames x = annaWith(harm);
        x.set(HARM, limit);
        return x.endYear();
    }

    private static void leastAndGreatestHarm() {
        sentence("HARM 1 to 99: harm by which a name is retired");
        due.is("HARM 1, no harm", retiredBy(1, 0), 0);
        due.is("HARM 1, harm 1", retiredBy(1, 1), 1);
        due.is("HARM 99, harm 98", retiredBy(99, 98), 0);
        due.is("HARM 99, harm 99", retiredBy(99, 99), 1);
        due.is("HARM 99, harm 100", retiredBy(99, 100), 1);
        due.is("HARM 2, harm 300", retiredBy(2, 300), 1);
    }

    private static int owedBy(int limit, int harm) {
        GaleNames x = annaWith(harm);
        x.set(SORRY, limit);
        return owedBy(x);
    }

    private static void leastAndGreatestSorry() {
        sentence("SORRY 1 to 99: harm by which namesakes are owed an apology");
        due.is("SORRY 1, no harm", owedBy(1, 0), 0);
        due.is("SORRY 1, harm 1", owedBy(1, 1), 1);
        due.is("SORRY 99, harm 98", owedBy(99, 98), 0);
        due.is("SORRY 99, harm 99", owedBy(99, 99), 1);
        due.is("SORRY 99, harm 100", owedBy(99, 100), 1);
        due.is("SORRY 2, harm 300: one apology", owedBy(2, 300), 1);
    }

    private static int faultOf(String text) {
        GaleNames x = new GaleNames();
        Due.append(x, text);
        return x.fault();
    }

    private static void nameLengths() {
        sentence("name = 2 to 6 letters");
        String letters = "abcdefgh";
        int[] faults = {0, 1, NONE, NONE, NONE, NONE, NONE, 6, 6};
        for (int length = 0; length <= 8; length++) {
            String name = letters.substring(0, length);
            due.is("fault of " + name, faultOf(name), faults[length]);
            int later = faults[length] == NONE ? NONE : 3 + faults[length];
            due.is("fault of it as the last one", faultOf("zz," + name), later);
            due.is("fault of it as the first one", faultOf(name + ",zz"), faults[length]);
            due.is("fault of it as the middle one", faultOf("zz," + name + ",zz"), later);
            due.is("namesake", Due.namesake(new GaleNames(), name), faults[length] == NONE ? 0 : BAD_TEXT);
            due.is("fill", Due.fill(new GaleNames(), 0, 0, name), faults[length] == NONE ? 1 : BAD_TEXT);
        }
    }

    /** Each character that the pad can hold, as the first, the second, the last letter and behind the last one. */
    private static void nameLetters() {
        sentence("letters, a to z");
        for (char sign = 33; sign <= 126; sign++) {
            boolean letter = sign >= 'a' && sign <= 'z';
            due.is("fault, first " + sign, faultOf(sign + "bcdef"), letter ? NONE : 0);
            due.is("fault, second " + sign, faultOf("a" + sign + "cdef"), letter ? NONE : 1);
            boolean comma = sign == ',';
            due.is("fault, third " + sign, faultOf("ab" + sign + "def"), letter || comma ? NONE : 2);
            due.is("fault, last " + sign, faultOf("abcde" + sign), letter ? NONE : comma ? 6 : 5);
            due.is("fault, seventh " + sign, faultOf("abcdef" + sign), comma ? 7 : 6);
            due.is("fault, behind a comma " + sign, faultOf("abc," + sign + "e"), letter ? NONE : 4);
        }
    }

    private static void commas() {
        sentence("names = name { \",\" name }");
        due.is("fault of a comma ahead", faultOf(",ab"), 0);
        due.is("fault of a comma at the end", faultOf("ab,"), 3);
        due.is("fault of two commas", faultOf("ab,,cd"), 3);
        due.is("fault of a comma alone", faultOf(","), 0);
        due.is("fault of a comma behind one letter", faultOf("a,bc"), 1);
        due.is("fault of a comma behind one letter of a later name", faultOf("bc,a,de"), 4);
        due.is("fault of many names", faultOf("ab,cdefgh,ij,klmnop,qr"), NONE);
    }

    private static void theFirstFault() {
        sentence("the fault is the index of the first character that cannot stand at its place");
        due.is("fault of two", faultOf("ab!c?"), 2);
        due.is("fault of two in two names", faultOf("ab,C,D"), 3);
        due.is("fault of a seventh letter and a sign", faultOf("abcdefg!"), 6);
        due.is("fault of a sign ahead of a seventh letter", faultOf("ab.cdefgh"), 2);
        due.is("fault of a seventh letter of a later name", faultOf("ab,cdefghi,j"), 9);
        due.is("fault of a seventh letter of two", faultOf("abcdefg,hijklmn"), 6);
        due.is("fault of a sign, and the end too early", faultOf("ab,c!"), 4);
        due.is("fault of the last of 80", faultOf(Offices.names(0, 26, 'a') + ",z!"), 79);
    }

    private static void textEndsTooEarly() {
        sentence("if the text ends too early, the fault is its length");
        due.is("fault of no text", faultOf(""), 0);
        due.is("fault of one letter", faultOf("a"), 1);
        due.is("fault of a comma at the end", faultOf("abc,"), 4);
        due.is("fault of one letter behind a comma", faultOf("abc,d"), 5);
        due.is("fault of a comma behind six letters", faultOf("abcdef,"), 7);
        due.is("fault at the end of 79 characters", faultOf(Offices.names(0, 25, 'a') + ",yaa,"), 79);
        due.is("fault of a comma at the end of a full pad", faultOf(Offices.names(0, 25, 'a') + ",yaaa,"), 80);
        due.is("fault of one letter at the end of a full pad", faultOf(Offices.names(0, 25, 'a') + ",yaa,z"), 80);
    }

    private static void nameNumbers() {
        sentence("names are numbered from 0 in the order in which they came");
        GaleNames x = new GaleNames();
        Due.fill(x, 1, 2, "zoe,yan");
        Due.namesake(x, "will");
        Due.fill(x, 0, 0, "vera,zoe,udo");
        Due.namesake(x, "yan");
        Due.namesake(x, "ada");
        String[] names = {"zoe", "yan", "will", "vera", "udo", "ada"};
        for (int name = 0; name < names.length; name++) due.is("find of " + names[name], Due.find(x, names[name]), name);
        x.strike(1, 2, 0);
        x.strike(0, 0, 0);
        Due.fill(x, 0, 1, "tom,vera");
        due.is("a struck name keeps its number", Due.find(x, "vera"), 3);
        due.is("a new one gets the next", Due.find(x, "tom"), 6);
    }

    private static void retiredOrNot() {
        sentence("a name is retired, or not (at first)");
        GaleNames x = annaWith(30);
        due.is("at first", x.of(0, 1), 0);
        due.is("count(2) at first", x.count(2), 0);
        x.endYear();
        due.is("then", x.of(0, 1), 1);
        due.is("the other one", x.of(1, 1), 0);
        due.is("count(2) then", x.count(2), 1);
        Due.namesake(x, "anna");
        due.is("it stays so", x.of(0, 1), 1);
        x.undo();
        x.undo();
        due.is("until it is undone", x.of(0, 1), 0);
    }

    /** The names have just so many first letters in common; each LIKE on both sides of that. */
    private static void alikeByEachNumberOfLetters() {
        sentence("two unlike names are alike if their first LIKE letters are the same");
        String[] others = {"zbcdef", "azcdef", "abzdef", "abczef", "abcdzf", "abcdez"};
        for (int same = 0; same < 6; same++) {
            for (int like = 1; like <= 6; like++) {
                GaleNames x = new GaleNames();
                x.set(LIKE, like);
                due.is("fill of both", Due.fill(x, 0, 0, "abcdef," + others[same]), same >= like ? NOT_POSSIBLE : 2);
                Due.fill(x, 0, 1, "abcdef");
                Due.fill(x, 0, 2, others[same]);
                due.is("fill of a list", Due.fill(x, 1, 0, "abcdef"), 1);
                due.is("fill of its list", Due.fill(x, 1, 0, others[same]), same >= like ? NOT_POSSIBLE : 2);
                due.is("of(0, 6)", x.of(0, 6), same >= like ? 1 : 0);
                due.is("same", x.same(0, 1), same);
            }
        }
    }

    private static void alikeWithFewerLetters() {
        sentence("a name with fewer letters is alike to none");
        String name = "abcdef";
        for (int length = 2; length < 6; length++) {
            for (int like = 1; like <= 6; like++) {
                GaleNames x = new GaleNames();
                x.set(LIKE, like);
                boolean alike = length >= like;
                String shorter = name.substring(0, length);
                due.is("fill of the shorter one last", Due.fill(x, 0, 0, name + "," + shorter), alike ? NOT_POSSIBLE : 2);
                due.is("fill of the shorter one first", Due.fill(x, 1, 0, shorter + "," + name), alike ? NOT_POSSIBLE : 2);
                GaleNames y = new GaleNames();
                y.set(LIKE, like);
                Due.namesake(y, name);
                Due.namesake(y, shorter);
                due.is("of(0, 6)", y.of(0, 6), alike ? 1 : 0);
                due.is("of(1, 6)", y.of(1, 6), alike ? 1 : 0);
            }
        }
    }

    private static void sameNameIsNotAlike() {
        sentence("two unlike names: a name is not alike to itself");
        for (int like = 1; like <= 6; like++) {
            GaleNames x = new GaleNames();
            x.set(LIKE, like);
            Due.fill(x, 0, 0, "abcdef");
            due.is("of(0, 6)", x.of(0, 6), 0);
            due.is("the same name on the other coast", Due.fill(x, 1, 0, "abcdef"), 1);
            due.is("same(0, 0)", x.same(0, 0), 6);
        }
    }

    private static void alikeOnOneListOnly() {
        sentence("alike to one on that list, or of the pad, and of no other list");
        for (int list = 0; list < 6; list++) {
            GaleNames x = new GaleNames();
            Due.fill(x, 0, 1, "anna");
            due.is("fill of list " + list, Due.fill(x, list / 3, list % 3, "annika"), list == 1 ? NOT_POSSIBLE : 1);
        }
        GaleNames x = new GaleNames();
        Due.fill(x, 0, 0, "anna,bob");
        x.strike(0, 0, 0);
        due.is("alike to one that was struck", Due.fill(x, 0, 0, "annika"), 2);
        due.is("alike to a retired one", fillBesideRetired(), 2);
    }

    private static int fillBesideRetired() {
        GaleNames x = annaWith(30);
        x.endYear();
        return Due.fill(x, 0, 0, "annika");
    }

    private static void listOfTheYear() {
        sentence("the lists of a year are those with its number left over by 3");
        GaleNames x = new GaleNames();
        for (int list = 0; list < 6; list++) Due.fill(x, list / 3, list % 3, Offices.names(0, 1 + list, (char) ('a' + list)));
        int[] first = {0, 1, 3, 6, 10, 15};
        for (int year = 0; year < 10; year++) {
            for (int coast = 0; coast < 2; coast++) {
                int list = coast * 3 + year % 3;
                due.is("next(" + coast + ") in the year " + year, x.next(coast), first[list]);
                for (int ahead = 0; ahead < 3; ahead++) {
                    int later = coast * 3 + (year + ahead) % 3;
                    due.is("left(" + coast + ", " + ahead + ") in the year " + year, x.left(coast, ahead), 1 + later);
                }
                due.is("storm(" + coast + ") in the year " + year, x.storm(coast), coast);
                due.is("its name", x.ofStorm(coast, 0), first[list]);
            }
            due.is("count(0)", x.count(0), year);
            x.endYear();
        }
    }

    private static void onceOnACoast() {
        sentence("a name stands on a coast at most once");
        for (int there = 0; there < 6; there++) {
            for (int list = 0; list < 6; list++) {
                GaleNames x = new GaleNames();
                Due.fill(x, there / 3, there % 3, "anna");
                int want = there / 3 == list / 3 ? NOT_POSSIBLE : 1;
                due.is("on list " + there + ", to list " + list, Due.fill(x, list / 3, list % 3, "anna"), want);
                x.strike(there / 3, there % 3, 0);
                int then = there / 3 == list / 3 ? 1 : NOT_POSSIBLE;
                due.is("struck off list " + there + ", to list " + list, Due.fill(x, list / 3, list % 3, "anna"), then);
            }
        }
        GaleNames x = new GaleNames();
        due.is("told twice, one behind the other", Due.fill(x, 0, 0, "anna,anna"), NOT_POSSIBLE);
        due.is("told twice, the first and the last", Due.fill(x, 0, 0, "anna,bob,cyril,anna"), NOT_POSSIBLE);
        Due.namesake(x, "anna");
        due.is("told twice, known", Due.fill(x, 0, 0, "bob,anna,anna"), NOT_POSSIBLE);
    }

    private static void firstNameNotGiven() {
        sentence("a storm gets the first name of the list, by its place");
        GaleNames x = new GaleNames();
        Due.fill(x, 1, 0, "anna,bob,cyril");
        Due.fill(x, 0, 0, "cyril,anna");
        Due.fill(x, 0, 0, "bob");
        int[] order = {2, 0, 1};
        for (int storm = 0; storm < 3; storm++) {
            due.is("next(0)", x.next(0), order[storm]);
            due.is("storm(0)", x.storm(0), storm);
            due.is("ofStorm(" + storm + ", 0)", x.ofStorm(storm, 0), order[storm]);
        }
        due.is("next(0)", x.next(0), NONE);
        due.is("storm(0)", x.storm(0), NOT_POSSIBLE);
        due.is("next(1)", x.next(1), 0);
    }

    private static void givenThereInThisYear() {
        sentence("a name that was not given there in this year");
        GaleNames x = new GaleNames();
        Due.fill(x, 0, 0, "anna,bob");
        Due.fill(x, 1, 0, "anna,bob");
        x.storm(0);
        due.is("given on the other coast: next(1)", x.next(1), 0);
        due.is("given on the other coast: left(1, 0)", x.left(1, 0), 2);
        due.is("given here: next(0)", x.next(0), 1);
        due.is("given here: left(0, 0)", x.left(0, 0), 1);
        x.strike(0, 0, 0);
        Due.fill(x, 0, 0, "anna");
        x.storm(0);
        due.is("given here before it was struck and came again", x.storm(0), NOT_POSSIBLE);
        x.strike(0, 0, 1);
        Due.fill(x, 0, 1, "anna");
        x.endYear();
        due.is("given here in the year before, from another list", x.storm(0), 0);
        due.is("its name", x.ofStorm(0, 0), 0);
        x.undo();
        due.is("given, and undone", x.next(0), 0);
    }

    private static void stormNumbers() {
        sentence("storms of a year are numbered from 0 in the order in which they came");
        GaleNames x = new GaleNames();
        for (int coast = 0; coast < 2; coast++) Due.fill(x, coast, 0, "anna,bob,cyril");
        int[] coasts = {1, 0, 0, 1, 0, 1};
        for (int storm = 0; storm < 6; storm++) {
            due.is("storm(" + coasts[storm] + ")", x.storm(coasts[storm]), storm);
            due.is("its harm at first", x.ofStorm(storm, 2), 0);
        }
        for (int storm = 0; storm < 6; storm++) due.is("its coast", x.ofStorm(storm, 1), coasts[storm]);
        for (int year = 0; year < 3; year++) x.endYear();
        due.is("the first storm of another year", x.storm(0), 0);
        due.is("its harm at first", x.ofStorm(0, 2), 0);
    }

    private static void twins() {
        sentence("twins are two storms of this year with the same name (on unlike coasts)");
        GaleNames x = new GaleNames();
        Due.fill(x, 0, 0, "anna,bob");
        Due.fill(x, 1, 0, "cyril,anna");
        Due.fill(x, 1, 1, "bob");
        x.storm(0);
        x.storm(0);
        x.storm(1);
        due.is("none yet", x.count(5), 0);
        for (int storm = 0; storm < 3; storm++) due.is("ofStorm(" + storm + ", 3)", x.ofStorm(storm, 3), NONE);
        x.storm(1);
        due.is("one pair", x.count(5), 1);
        due.is("ofStorm(0, 3)", x.ofStorm(0, 3), 3);
        due.is("ofStorm(3, 3)", x.ofStorm(3, 3), 0);
        due.is("ofStorm(1, 3)", x.ofStorm(1, 3), NONE);
        x.endYear();
        due.is("none in a new year", x.count(5), 0);
        x.storm(1);
        due.is("bob of this year and bob of the year before", x.ofStorm(0, 3), NONE);
        due.is("are no pair", x.count(5), 0);
    }

    /** Twins of anna, with so much harm each. */
    private static GaleNames twinsWith(int harm, int other) {
        GaleNames x = new GaleNames();
        Due.fill(x, 0, 0, "anna");
        Due.fill(x, 1, 0, "anna");
        Due.namesake(x, "anna");
        x.storm(0);
        x.storm(1);
        x.harm(0, harm);
        x.harm(1, other);
        return x;
    }

    private static void harmOfBothCoasts() {
        sentence("the harm of a name is that of all its storms of the year, together");
        due.is("14 and 15", twinsWith(14, 15).endYear(), 0);
        due.is("15 and 15: one name", twinsWith(15, 15).endYear(), 1);
        due.is("30 and 30: one name", twinsWith(30, 30).endYear(), 1);
        due.is("4 and 5", owedBy(twinsWith(4, 5)), 0);
        due.is("5 and 5: one apology", owedBy(twinsWith(5, 5)), 1);
        due.is("10 and 10: one apology", owedBy(twinsWith(10, 10)), 1);
        GaleNames x = twinsWith(15, 14);
        due.is("ifRetired(29)", x.ifRetired(29), 1);
        due.is("ifRetired(30)", x.ifRetired(30), 0);
        due.is("of(0, 4)", x.of(0, 4), 29);
        due.is("ofStorm(0, 2)", x.ofStorm(0, 2), 15);
        due.is("ofStorm(1, 2)", x.ofStorm(1, 2), 14);
    }

    private static void harmOfThisYear() {
        sentence("harm of the year, not of the years before");
        GaleNames x = annaWith(29);
        x.set(SORRY, 30);
        for (int i = 0; i < 3; i++) due.is("endYear()", x.endYear(), 0);
        x.storm(0);
        due.is("ifRetired(1)", x.ifRetired(1), 0);
        x.harm(0, 29);
        due.is("its harm so far", x.of(0, 4), 58);
        due.is("ifRetired(30)", x.ifRetired(30), 0);
        due.is("endYear()", x.endYear(), 0);
        due.is("owed", x.count(7), 0);
    }

    private static void muchHarm() {
        sentence("harm of a storm has no bound");
        GaleNames x = twinsWith(50, 50);
        for (int i = 2; i <= 240; i++) {
            due.is("harm(0, 50)", x.harm(0, 50), 50 * i);
            due.is("harm(1, 50)", x.harm(1, 50), 50 * i);
        }
        due.is("ofStorm(0, 2)", x.ofStorm(0, 2), 12000);
        due.is("ofStorm(1, 2)", x.ofStorm(1, 2), 12000);
        due.is("of(0, 4)", x.of(0, 4), 24000);
        due.is("ifRetired(99)", x.ifRetired(99), 1);
        due.is("endYear()", x.endYear(), 1);
    }

    private static void oneApologyMore() {
        sentence("each of its namesakes is owed one apology more");
        GaleNames x = annaWith(10);
        for (int year = 0; year < 9; year++) {
            if (year % 3 == 0 && year > 0) {
                x.storm(0);
                x.harm(0, 25);
            }
            x.endYear();
            due.is("owed after the year " + year, x.ofNamesake(0, 1), 1 + year / 3);
            due.is("count(7) after the year " + year, x.count(7), 1 + year / 3);
        }
        due.is("apologise", x.apologise(0), 2);
        due.is("apologise", x.apologise(0), 1);
        due.is("apologise, the last one", x.apologise(0), 0);
        due.is("apologise, no more", x.apologise(0), NOT_POSSIBLE);
        due.is("letters written", x.ofNamesake(0, 2), 3);
        due.is("count(8)", x.count(8), 3);
    }

    private static void eachNamesakeIsOwed() {
        sentence("each name with a harm of SORRY or more: each of its namesakes");
        GaleNames x = new GaleNames();
        Due.fill(x, 0, 0, "anna,bob,cyril");
        for (int i = 0; i < 9; i++) Due.namesake(x, i % 3 == 0 ? "anna" : i % 3 == 1 ? "bob" : "cyril");
        Due.namesake(x, "anna");
        for (int storm = 0; storm < 3; storm++) x.storm(0);
        x.harm(0, 10);
        x.harm(1, 9);
        x.harm(2, 11);
        x.endYear();
        for (int i = 0; i < 10; i++) due.is("owed to " + i, x.ofNamesake(i, 1), i % 3 == 1 ? 0 : 1);
        due.is("owed in all", x.count(7), 7);
    }

    private static void retiredOffAllLists() {
        sentence("a retired name is taken off all lists, and those behind it come one place nearer");
        for (int place = 0; place < 8; place++) {
            GaleNames x = new GaleNames();
            Due.fill(x, 0, 0, Offices.names(place, 1, 'a'));
            x.storm(0);
            x.strike(0, 0, 0);
            Due.fill(x, 0, 2, Offices.eight('a'));
            Due.fill(x, 1, 1, Offices.eight('a'));
            x.harm(0, 30);
            due.is("endYear()", x.endYear(), 1);
            for (int list = 0; list < 2; list++) {
                for (int i = 0; i < 7; i++) {
                    due.is("listed at " + i, x.letter(x.listed(list, 2 - list, i), 0), 'a' + (i < place ? i : i + 1));
                }
                due.is("listed at 7", x.listed(list, 2 - list, 7), NO_SUCH);
            }
            due.is("of(0, 2)", x.of(0, 2), 0);
            due.is("it comes no more", Due.fill(x, 0, 0, Offices.names(place, 1, 'a')), NOT_POSSIBLE);
        }
        GaleNames all = new GaleNames();
        for (int coast = 0; coast < 2; coast++) Due.fill(all, coast, 0, Offices.eight('a'));
        all.set(HARM, 1);
        for (int storm = 0; storm < 8; storm++) all.storm(0);
        for (int storm = 0; storm < 8; storm++) all.harm(storm, 1);
        due.is("endYear() of eight", all.endYear(), 8);
        due.listIs(all, 0, 0);
        due.listIs(all, 1, 0);
    }

    private static void harmAndSorryApart() {
        sentence("SORRY or more and HARM or more, each by itself");
        int[][] limits = {{20, 20, 1, 1}, {20, 21, 1, 0}, {21, 20, 0, 1}, {21, 21, 0, 0}, {1, 99, 1, 0}, {99, 1, 0, 1}};
        for (int[] limit : limits) {
            GaleNames x = annaWith(20);
            x.set(HARM, limit[0]);
            x.set(SORRY, limit[1]);
            due.is("HARM " + limit[0] + ", SORRY " + limit[1] + ": retired", x.endYear(), limit[2]);
            due.is("HARM " + limit[0] + ", SORRY " + limit[1] + ": owed", x.count(7), limit[3]);
        }
    }

    private static void afterTheYear() {
        sentence("then there are no storms, and the year is 1 more");
        GaleNames x = twinsWith(9, 9);
        x.endYear();
        due.is("count(0)", x.count(0), 1);
        due.is("count(3)", x.count(3), 0);
        due.is("count(4): storms so far", x.count(4), 2);
        due.is("count(5)", x.count(5), 0);
        due.is("of(0, 3): storms so far", x.of(0, 3), 2);
        due.is("of(0, 4): harm so far", x.of(0, 4), 18);
        due.is("ofStorm(0, 0)", x.ofStorm(0, 0), NO_SUCH);
        due.is("harm(0, 1)", x.harm(0, 1), NO_SUCH);
        due.is("ifRetired(1)", x.ifRetired(1), 0);
    }
}
