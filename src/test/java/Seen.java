/**
 * All that can be seen of an object, as texts. They are parts, for an object is used for 512 calls alone: who wants to
 * see a full office makes it anew for each part.
 */
final class Seen {
    /** The parts of what undo and restore bring back; the pad and the length of the history are one part more. */
    static final int OFFICE_PARTS = 4, PARTS = OFFICE_PARTS + 1;

    private Seen() {
    }

    static String part(GaleNames x, int part) {
        switch (part) {
            case 0: return numbers(x);
            case 1: return names(x);
            case 2: return letters(x);
            case 3: return rows(x);
            default: return pad(x);
        }
    }

    private static String numbers(GaleNames x) {
        StringBuilder seen = new StringBuilder();
        for (int what = 0; what < 12; what++) seen.append(x.count(what)).append(' ');
        for (int coast = 0; coast < 2; coast++) {
            seen.append(x.next(coast)).append(' ');
            for (int ahead = 0; ahead < 3; ahead++) seen.append(x.left(coast, ahead)).append(' ');
        }
        for (int harm = 1; harm < 100; harm++) seen.append(x.ifRetired(harm)).append(' ');
        for (int rank = 0; rank < 40; rank++) seen.append(x.ranked(rank)).append(' ');
        return seen.toString();
    }

    private static String names(GaleNames x) {
        StringBuilder seen = new StringBuilder();
        for (int name = 0; name < 40; name++) {
            for (int what = 0; what < 7; what++) seen.append(x.of(name, what)).append(' ');
        }
        return seen.toString();
    }

    private static String letters(GaleNames x) {
        StringBuilder seen = new StringBuilder();
        for (int name = 0; name < 40; name++) {
            for (int index = 0; index < 6; index++) seen.append(x.letter(name, index)).append(' ');
        }
        return seen.toString();
    }

    /** Lists, storms and namesakes. */
    private static String rows(GaleNames x) {
        StringBuilder seen = new StringBuilder();
        for (int place = 0; place < 8; place++) {
            for (int list = 0; list < 6; list++) seen.append(x.listed(list / 3, list % 3, place)).append(' ');
        }
        for (int storm = 0; storm < 16; storm++) {
            for (int what = 0; what < 4; what++) seen.append(x.ofStorm(storm, what)).append(' ');
        }
        for (int namesake = 0; namesake < 10; namesake++) {
            for (int what = 0; what < 3; what++) seen.append(x.ofNamesake(namesake, what)).append(' ');
        }
        return seen.toString();
    }

    private static String pad(GaleNames x) {
        StringBuilder seen = new StringBuilder(Due.padText(x));
        return seen.append(' ').append(x.count(12)).append(' ').append(x.count(13)).append(' ').append(x.fault()).toString();
    }
}
