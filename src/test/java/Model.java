import java.util.ArrayDeque;
import java.util.ArrayList;
import java.util.Deque;
import java.util.LinkedHashSet;
import java.util.List;
import java.util.Set;

/**
 * The document once more, written with texts and lists and with nothing kept that can be told from something else, so
 * that a fault of GaleNames is not likely to stand here, too.
 */
final class Model {
    private static final int NO_SUCH = -1, BAD_VALUE = -2, BAD_TEXT = -3, TOO_MANY = -4, NOT_POSSIBLE = -5, NONE = -6;

    record Storm(int year, String name, int coast, int harm) { }

    record Namesake(String name, int owed, int written) { }

    private static final class Office {
        int year;
        int[] settings = {30, 10, 3};
        List<String> known = new ArrayList<>();
        Set<String> retired = new LinkedHashSet<>();
        List<List<String>> lists = new ArrayList<>();
        List<Storm> storms = new ArrayList<>();
        List<Namesake> namesakes = new ArrayList<>();

        Office() {
            for (int i = 0; i < 6; i++) lists.add(new ArrayList<>());
        }

        Office twin() {
            Office twin = new Office();
            twin.year = year;
            twin.settings = settings.clone();
            twin.known = new ArrayList<>(known);
            twin.retired = new LinkedHashSet<>(retired);
            twin.lists = new ArrayList<>();
            for (List<String> list : lists) twin.lists.add(new ArrayList<>(list));
            twin.storms = new ArrayList<>(storms);
            twin.namesakes = new ArrayList<>(namesakes);
            return twin;
        }
    }

    private Office office = new Office();
    private String pad = "";
    private final Deque<Office> history = new ArrayDeque<>();
    private final Office[] slots = new Office[2];

    private void change() {
        history.addLast(office.twin());
        if (history.size() > 6) history.removeFirst();
    }

    private static boolean in(int value, int from, int to) {
        return value >= from && value <= to;
    }

    private List<String> list(int coast, int list) {
        return in(coast, 0, 1) && in(list, 0, 2) ? office.lists.get(coast * 3 + list) : null;
    }

    private List<String> padNames() {
        return pad.matches("[a-z]{2,6}(,[a-z]{2,6})*") ? List.of(pad.split(",")) : null;
    }

    private String padName() {
        return pad.matches("[a-z]{2,6}") ? pad : null;
    }

    private boolean alike(String a, String b) {
        int like = office.settings[2];
        return !a.equals(b) && a.length() >= like && b.length() >= like && a.substring(0, like).equals(b.substring(0, like));
    }

    private boolean onCoast(String name, int coast) {
        return list(coast, 0).contains(name) || list(coast, 1).contains(name) || list(coast, 2).contains(name);
    }

    private void learn(String name) {
        if (!office.known.contains(name)) office.known.add(name);
    }

    private List<Storm> stormsOfYear() {
        return office.storms.stream().filter(storm -> storm.year() == office.year).toList();
    }

    private List<String> namesLeft(int coast) {
        List<String> names = new ArrayList<>(list(coast, office.year % 3));
        names.removeAll(office.retired);
        for (Storm storm : stormsOfYear()) {
            if (storm.coast() == coast) names.remove(storm.name());
        }
        return names;
    }

    private int harmOfYear(String name) {
        return stormsOfYear().stream().filter(storm -> storm.name().equals(name)).mapToInt(Storm::harm).sum();
    }

    int set(int setting, int value) {
        if (!in(setting, 0, 2) || !in(value, 1, setting == 2 ? 6 : 99)) return BAD_VALUE;
        change();
        int before = office.settings[setting];
        office.settings[setting] = value;
        return before;
    }

    int fill(int coast, int number) {
        List<String> list = list(coast, number);
        if (list == null) return NO_SUCH;
        List<String> names = padNames();
        if (names == null) return BAD_TEXT;
        for (String name : names) {
            if (office.retired.contains(name) || onCoast(name, coast)) return NOT_POSSIBLE;
            if (names.indexOf(name) != names.lastIndexOf(name)) return NOT_POSSIBLE;
            for (String other : list) if (alike(name, other)) return NOT_POSSIBLE;
            for (String other : names) if (alike(name, other)) return NOT_POSSIBLE;
        }
        Set<String> all = new LinkedHashSet<>(office.known);
        all.addAll(names);
        if (list.size() + names.size() > 8 || all.size() > 40) return TOO_MANY;
        change();
        for (String name : names) learn(name);
        list.addAll(names);
        pad = "";
        return list.size();
    }

    int strike(int coast, int number, int place) {
        List<String> list = list(coast, number);
        if (list == null || !in(place, 0, list.size() - 1)) return NO_SUCH;
        change();
        return office.known.indexOf(list.remove(place));
    }

    int storm(int coast) {
        if (!in(coast, 0, 1)) return NO_SUCH;
        List<String> left = namesLeft(coast);
        if (left.isEmpty()) return NOT_POSSIBLE;
        int number = stormsOfYear().size();
        if (number == 16) return TOO_MANY;
        change();
        office.storms.add(new Storm(office.year, left.get(0), coast, 0));
        return number;
    }

    int harm(int number, int by) {
        List<Storm> storms = stormsOfYear();
        if (!in(number, 0, storms.size() - 1)) return NO_SUCH;
        if (!in(by, 1, 50)) return BAD_VALUE;
        change();
        Storm storm = storms.get(number);
        Storm worse = new Storm(storm.year(), storm.name(), storm.coast(), storm.harm() + by);
        office.storms.set(office.storms.size() - storms.size() + number, worse);
        return worse.harm();
    }

    int endYear() {
        if (office.year == 999) return NOT_POSSIBLE;
        change();
        office.namesakes.replaceAll(namesake -> harmOfYear(namesake.name()) >= office.settings[1]
            ? new Namesake(namesake.name(), namesake.owed() + 1, namesake.written()) : namesake);
        int retired = 0;
        for (String name : office.known) {
            if (harmOfYear(name) < office.settings[0]) continue;
            office.retired.add(name);
            for (List<String> list : office.lists) list.remove(name);
            retired++;
        }
        office.year++;
        return retired;
    }

    int namesake() {
        String name = padName();
        if (name == null) return BAD_TEXT;
        if (office.namesakes.size() == 10 || !office.known.contains(name) && office.known.size() == 40) return TOO_MANY;
        change();
        learn(name);
        office.namesakes.add(new Namesake(name, 0, 0));
        pad = "";
        return office.namesakes.size() - 1;
    }

    int apologise(int number) {
        if (!in(number, 0, office.namesakes.size() - 1)) return NO_SUCH;
        Namesake namesake = office.namesakes.get(number);
        if (namesake.owed() == 0) return NOT_POSSIBLE;
        change();
        office.namesakes.set(number, new Namesake(namesake.name(), namesake.owed() - 1, namesake.written() + 1));
        return namesake.owed() - 1;
    }

    int write(int coast, int number) {
        List<String> list = list(coast, number);
        if (list == null) return NO_SUCH;
        pad = String.join(",", list);
        return pad.length();
    }

    int of(int number, int what) {
        if (!in(number, 0, office.known.size() - 1)) return NO_SUCH;
        String name = office.known.get(number);
        switch (what) {
            case 0: return name.length();
            case 1: return office.retired.contains(name) ? 1 : 0;
            case 2: return (onCoast(name, 0) ? 1 : 0) + (onCoast(name, 1) ? 2 : 0);
            case 3: return (int) office.storms.stream().filter(storm -> storm.name().equals(name)).count();
            case 4: return office.storms.stream().filter(s -> s.name().equals(name)).mapToInt(Storm::harm).sum();
            case 5: return (int) office.namesakes.stream().filter(n -> n.name().equals(name)).count();
            case 6: return (int) office.known.stream().filter(other -> alike(name, other)).count();
            default: return BAD_VALUE;
        }
    }

    int letter(int number, int index) {
        if (!in(number, 0, office.known.size() - 1)) return NO_SUCH;
        String name = office.known.get(number);
        return in(index, 0, name.length() - 1) ? name.charAt(index) : NO_SUCH;
    }

    int listed(int coast, int number, int place) {
        List<String> list = list(coast, number);
        return list == null || !in(place, 0, list.size() - 1) ? NO_SUCH : office.known.indexOf(list.get(place));
    }

    private int twin(List<Storm> storms, int number) {
        for (int i = 0; i < storms.size(); i++) {
            boolean sameName = storms.get(i).name().equals(storms.get(number).name());
            if (sameName && storms.get(i).coast() != storms.get(number).coast()) return i;
        }
        return NONE;
    }

    int ofStorm(int number, int what) {
        List<Storm> storms = stormsOfYear();
        if (!in(number, 0, storms.size() - 1)) return NO_SUCH;
        switch (what) {
            case 0: return office.known.indexOf(storms.get(number).name());
            case 1: return storms.get(number).coast();
            case 2: return storms.get(number).harm();
            case 3: return twin(storms, number);
            default: return BAD_VALUE;
        }
    }

    int ofNamesake(int number, int what) {
        if (!in(number, 0, office.namesakes.size() - 1)) return NO_SUCH;
        Namesake namesake = office.namesakes.get(number);
        switch (what) {
            case 0: return office.known.indexOf(namesake.name());
            case 1: return namesake.owed();
            case 2: return namesake.written();
            default: return BAD_VALUE;
        }
    }

    int ranked(int rank) {
        if (!in(rank, 0, office.known.size() - 1)) return NO_SUCH;
        return office.known.indexOf(office.known.stream().sorted().toList().get(rank));
    }

    int sign(int place) {
        return in(place, 0, pad.length() - 1) ? pad.charAt(place) : NO_SUCH;
    }

    private int twins() {
        List<Storm> storms = stormsOfYear();
        int twins = 0;
        for (int i = 0; i < storms.size(); i++) {
            if (twin(storms, i) >= 0) twins++;
        }
        return twins / 2;
    }

    int count(int what) {
        switch (what) {
            case 0: return office.year;
            case 1: return office.known.size();
            case 2: return office.retired.size();
            case 3: return stormsOfYear().size();
            case 4: return office.storms.size();
            case 5: return twins();
            case 6: return office.namesakes.size();
            case 7: return office.namesakes.stream().mapToInt(Namesake::owed).sum();
            case 8: return office.namesakes.stream().mapToInt(Namesake::written).sum();
            case 9: case 10: case 11: return office.settings[what - 9];
            case 12: return pad.length();
            case 13: return history.size();
            default: return BAD_VALUE;
        }
    }

    int find() {
        String name = padName();
        if (name == null) return BAD_TEXT;
        return office.known.contains(name) ? office.known.indexOf(name) : NONE;
    }

    int beginning() {
        String name = padName();
        return name == null ? BAD_TEXT : (int) office.known.stream().filter(known -> known.startsWith(name)).count();
    }

    int next(int coast) {
        if (!in(coast, 0, 1)) return NO_SUCH;
        List<String> left = namesLeft(coast);
        return left.isEmpty() ? NONE : office.known.indexOf(left.get(0));
    }

    int left(int coast, int ahead) {
        if (!in(coast, 0, 1)) return NO_SUCH;
        if (!in(ahead, 0, 2)) return BAD_VALUE;
        return ahead == 0 ? namesLeft(coast).size() : list(coast, (office.year + ahead) % 3).size();
    }

    int ifRetired(int harm) {
        if (!in(harm, 1, 99)) return BAD_VALUE;
        return (int) office.known.stream().filter(name -> harmOfYear(name) >= harm).count();
    }

    int same(int number, int other) {
        if (!in(number, 0, office.known.size() - 1) || !in(other, 0, office.known.size() - 1)) return NO_SUCH;
        String name = office.known.get(number);
        int letters = name.length();
        while (!office.known.get(other).startsWith(name.substring(0, letters))) letters--;
        return letters;
    }

    int put(long characters) {
        String text = "";
        boolean ended = false;
        for (int shift = 0; shift < 64; shift += 8) {
            int code = (int) (characters >> shift & 0xff);
            if (code == 0) {
                ended = true;
            } else {
                if (ended || !in(code, 33, 126)) return BAD_VALUE;
                text = (char) code + text;
            }
        }
        if (text.isEmpty()) return BAD_VALUE;
        if (pad.length() + text.length() > 80) return TOO_MANY;
        pad += text;
        return pad.length();
    }

    int wipe() {
        int length = pad.length();
        pad = "";
        return length;
    }

    /** The length of the longest beginning that can go on to names, or be them. */
    int fault() {
        if (padNames() != null) return NONE;
        int length = pad.length();
        while (!pad.substring(0, length).matches("([a-z]{2,6},)*[a-z]{0,6}")) length--;
        return length;
    }

    int undo() {
        if (history.isEmpty()) return NOT_POSSIBLE;
        office = history.removeLast();
        return history.size();
    }

    int save(int slot) {
        if (!in(slot, 0, 1)) return BAD_VALUE;
        slots[slot] = office.twin();
        return office.known.size();
    }

    int restore(int slot) {
        if (!in(slot, 0, 1)) return BAD_VALUE;
        if (slots[slot] == null) return NOT_POSSIBLE;
        change();
        office = slots[slot].twin();
        return office.known.size();
    }
}
