/** Promises 10 and 25 to 27: the pad. */
public final class TextsTest {
    private static final int NO_SUCH = GaleNames.NO_SUCH, BAD_VALUE = GaleNames.BAD_VALUE;
    private static final int TOO_MANY = GaleNames.TOO_MANY, NONE = GaleNames.NONE;
    private static final Due due = new Due();

    public static void main(String[] args) {
        write();
        put();
        putBadValues();
        putTooMany();
        wipe();
        fault();
        due.end();
    }

    private static void write() {
        due.promise(10, "write");
        GaleNames x = new GaleNames();
        Due.fill(x, 0, 0, "zoe,anna");
        Due.fill(x, 1, 2, "abcdef,bcdefg,cdefgh,defghi,efghij,fghijk,ghijkl,hijklm");
        Due.pad(x, "what?");
        due.is("write(0, 0)", x.write(0, 0), 8);
        due.padIs(x, "zoe,anna");
        due.is("write(1, 2)", x.write(1, 2), 55);
        due.padIs(x, "abcdef,bcdefg,cdefgh,defghi,efghij,fghijk,ghijkl,hijklm");
        due.is("changes", x.count(13), 2);
        due.is("write(2, 0)", x.write(2, 0), NO_SUCH);
        due.is("write(-1, 0)", x.write(-1, 0), NO_SUCH);
        due.is("write(0, 3)", x.write(0, 3), NO_SUCH);
        due.is("write(1, -1)", x.write(1, -1), NO_SUCH);
        due.is("the pad then", x.count(12), 55);
        due.is("write(0, 1) of no names", x.write(0, 1), 0);
        due.padIs(x, "");
        due.is("fill(1, 0) with what was written", x.write(0, 0) == 8 ? x.fill(1, 0) : -99, 2);
    }

    private static void put() {
        due.promise(25, "put");
        GaleNames x = new GaleNames();
        due.is("put(a)", x.put('a'), 1);
        due.is("put(bc)", x.put('b' << 8 | 'c'), 3);
        due.is("put(8 characters)", x.put(Due.packed("defghijk")), 11);
        due.padIs(x, "abcdefghijk");
        due.is("put(33)", x.put(33), 12);
        due.is("put(126)", x.put(126), 13);
        due.padIs(x, "abcdefghijk!~");
        due.is("changes", x.count(13), 0);
        due.is("put(7 characters)", x.put(Due.packed("~~~~~~~")), 20);
        due.padIs(x, "abcdefghijk!~~~~~~~~");
        for (int sign = 0; sign < 256; sign++) {
            due.is("put(" + sign + ")", new GaleNames().put(sign), sign >= 33 && sign <= 126 ? 1 : BAD_VALUE);
        }
    }

    private static void putBadValues() {
        due.promise(25, "put, bad values");
        GaleNames x = new GaleNames();
        x.put('x');
        long a = 'a';
        long[] bad = {
            0, -1, 32, 127, 128, 255, a << 8, a << 56, a << 16 | a, 1L << 63 | a, 1L << 40 | a << 8 | a, 1L << 16 | a,
            a << 8 | 32, a << 8 | 127, 32L << 8 | a, 127L << 8 | a, 1L << 8 | a, Due.packed(" bcdefgh"),
            Due.packed("abcdefg "), Due.packed("abcd efg"), 0x80L << 56 | Due.packed("bcdefgh"),
            Long.MIN_VALUE, Long.MAX_VALUE
        };
        for (long characters : bad) due.is("put(" + characters + ")", x.put(characters), BAD_VALUE);
        due.padIs(x, "x");
    }

    private static void putTooMany() {
        due.promise(25, "put, too many");
        GaleNames x = new GaleNames();
        for (int i = 1; i <= 9; i++) due.is("put " + i, x.put(Due.packed("abcdefgh")), 8 * i);
        due.is("put(ijk)", x.put(Due.packed("ijk")), 75);
        due.is("put(6 more)", x.put(Due.packed("lmnopq")), TOO_MANY);
        due.is("put(a bad value)", x.put(Due.packed("lmno q")), BAD_VALUE);
        due.is("put(5 more)", x.put(Due.packed("lmnop")), 80);
        due.is("put(1 more)", x.put('q'), TOO_MANY);
        due.is("sign(79)", x.sign(79), 'p');
        due.is("sign(80)", x.sign(80), NO_SUCH);
        due.is("count(12)", x.count(12), 80);
        due.is("wipe()", x.wipe(), 80);
        due.is("put(q)", x.put('q'), 1);
    }

    private static void wipe() {
        due.promise(26, "wipe");
        GaleNames x = new GaleNames();
        due.is("wipe() of no text", x.wipe(), 0);
        Due.append(x, "anna");
        due.is("wipe()", x.wipe(), 4);
        due.is("wipe() again", x.wipe(), 0);
        due.padIs(x, "");
        due.is("changes", x.count(13), 0);
    }

    private static void fault() {
        due.promise(27, "fault");
        String[] texts = {
            "", "a", "an", "ann", "abcdef", "abcdefg", "abcdefgh", ",", "a,", "an,", "an,b", "an,bo", "an,bo,",
            "an,,bo", "an,b,", "an,bcdefg", "an,bcdefgh", "An", "aN", "an,Bo", "an!", "an;bo", "a1", "1", "an,bo,c",
            "az", "za", "zz", "`a", "a`", "{a", "a{", "abcdef,g", "abcdef,gh", "abcdef.gh", "abcdef,ghijkl,m",
            "abcdefg,A", "an+", "an-"
        };
        int[] faults = {
            0, 1, NONE, NONE, NONE, 6, 6, 0, 1, 3, 4, NONE, 6,
            3, 4, NONE, 9, 0, 1, 3, 2, 2, 1, 0, 7,
            NONE, NONE, NONE, 0, 1, 0, 1, 8, NONE, 6, 15,
            6, 2, 2
        };
        for (int i = 0; i < texts.length; i++) {
            GaleNames x = new GaleNames();
            Due.append(x, texts[i]);
            due.is("fault() of " + texts[i], x.fault(), faults[i]);
            due.padIs(x, texts[i]);
        }
        GaleNames x = new GaleNames();
        StringBuilder names = new StringBuilder("aa");
        for (int i = 1; i < 27; i++) names.append(",b").append((char) ('a' + i % 26));
        Due.append(x, names.toString());
        due.is("count(12)", x.count(12), 80);
        due.is("fault() of 27 names", x.fault(), NONE);
        x.wipe();
        Due.append(x, names.substring(0, 78) + ",b");
        due.is("fault() of a text that ends at 80 too early", x.fault(), 78);
        x.wipe();
        Due.append(x, names.substring(0, 77) + ",bb");
        due.is("fault() of 27 names again", x.fault(), NONE);
        x.wipe();
        Due.append(x, names.substring(0, 77) + "c,b");
        due.is("fault() at the end of the room", x.fault(), 80);
    }
}
