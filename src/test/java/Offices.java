/** Offices that tests begin with. Each one is made anew, for an object is used for 512 calls alone. */
final class Offices {
    /** The number of anna, who is retired in the ordinary office; and how many names it knows. */
    static final int ANNA = 0, ORDINARY_NAMES = 6;

    private Offices() {
    }

    /**
     * In the year 1, by more changes than the history keeps: anna is retired, bob's namesake is owed an apology, eve is
     * storm 0, frank is next on both coasts; slot 0 holds the year 0, slot 1 the year 1 before the harm; the pad: gus.
     */
    static GaleNames ordinary() {
        GaleNames x = new GaleNames();
        Due.fill(x, 0, 0, "anna,bob,cyril");
        Due.fill(x, 1, 0, "bob,dora");
        Due.namesake(x, "bob");
        x.storm(0);
        x.storm(0);
        x.storm(1);
        x.harm(0, 30);
        x.harm(1, 10);
        x.save(0);
        x.endYear();
        Due.fill(x, 0, 1, "eve,frank");
        Due.fill(x, 1, 1, "frank");
        x.storm(0);
        x.save(1);
        x.harm(0, 5);
        Due.append(x, "gus");
        return x;
    }

    /**
     * 40 names, eight on each list, 16 storms, ten namesakes of aa, both slots and the history full; only the pad is
     * empty. Coast 0 has a name left: ad came to its list 0 when the storms were there. Coast 1 has none.
     */
    static GaleNames full() {
        GaleNames x = new GaleNames();
        fillAll(x);
        for (int i = 0; i < 16; i++) x.storm(i & 1);
        x.save(0);
        for (int i = 0; i < 10; i++) Due.namesake(x, "aa");
        x.strike(0, 0, 0);
        Due.fill(x, 0, 0, "ad");
        x.save(1);
        return x;
    }

    /** 40 names, eight on each list: both lists 0 have aa to ha, the others ab to hb and so on. */
    static void fillAll(GaleNames x) {
        Due.fill(x, 0, 0, eight('a'));
        Due.fill(x, 0, 1, eight('b'));
        Due.fill(x, 0, 2, eight('c'));
        Due.fill(x, 1, 1, eight('d'));
        Due.fill(x, 1, 2, eight('e'));
        Due.fill(x, 1, 0, eight('a'));
    }

    /** Eight names of two letters that end with the same one. */
    static String eight(char last) {
        return names(0, 8, last);
    }

    /** Names of two letters that end with the same one: so many, from the letter with that number on. */
    static String names(int from, int many, char last) {
        StringBuilder text = new StringBuilder();
        for (int i = from; i < from + many; i++) {
            if (i > from) text.append(',');
            text.append((char) ('a' + i)).append(last);
        }
        return text.toString();
    }

    /** So many characters that are letters. */
    static String letters(int many) {
        StringBuilder text = new StringBuilder();
        for (int i = 0; i < many; i++) text.append((char) ('a' + i % 26));
        return text.toString();
    }
}
