/** Compares answers with those that are due, and prints each that is not. */
final class Due {
    private static final int MOST_SIGNS_AT_ONCE = 8;

    private int asked;
    private int wrong;
    private String promise = "";

    void promise(int number, String of) {
        promise = "promise " + number + " (" + of + "): ";
    }

    void is(String call, long got, long want) {
        asked++;
        if (got == want) return;
        wrong++;
        System.out.println(promise + call + " answered " + got + ", due is " + want);
    }

    int wrong() {
        return wrong;
    }

    /** Prints the sum, and ends the program with 1 if an answer was wrong. */
    void end() {
        System.out.println(wrong == 0 ? asked + " answers are as due" : wrong + " of " + asked + " answers are wrong");
        if (wrong != 0) System.exit(1);
    }

    /** A text of 1 to 8 characters as the number that put() takes. */
    static long packed(String text) {
        long number = 0;
        for (int i = 0; i < text.length(); i++) number = number << 8 | text.charAt(i);
        return number;
    }

    /** Puts a text of any length behind what the pad holds. */
    static void append(GaleNames x, String text) {
        for (int i = 0; i < text.length(); i += MOST_SIGNS_AT_ONCE) {
            x.put(packed(text.substring(i, Math.min(text.length(), i + MOST_SIGNS_AT_ONCE))));
        }
    }

    /** Puts a text in place of what the pad holds. */
    static void pad(GaleNames x, String text) {
        x.wipe();
        append(x, text);
    }

    static int fill(GaleNames x, int coast, int list, String names) {
        pad(x, names);
        return x.fill(coast, list);
    }

    static int namesake(GaleNames x, String name) {
        pad(x, name);
        return x.namesake();
    }

    static int find(GaleNames x, String name) {
        pad(x, name);
        return x.find();
    }

    static String padText(GaleNames x) {
        StringBuilder text = new StringBuilder();
        for (int i = 0; i < x.count(12); i++) text.append((char) x.sign(i));
        return text.toString();
    }

    /** Asks whether the pad holds a text. */
    void padIs(GaleNames x, String want) {
        String got = padText(x);
        is("the pad, \"" + got + "\" for \"" + want + "\",", got.equals(want) ? 1 : 0, 1);
    }

    /** Asks whether a list holds just these names. */
    void listIs(GaleNames x, int coast, int list, int... names) {
        for (int place = 0; place < names.length; place++) {
            is("listed(" + coast + ", " + list + ", " + place + ")", x.listed(coast, list, place), names[place]);
        }
        is("listed(" + coast + ", " + list + ", behind the last)", x.listed(coast, list, names.length), GaleNames.NO_SUCH);
    }
}
