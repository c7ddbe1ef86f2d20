/** An office that names storms; ../shared/DOC.md says what each call answers. */
public final class GaleNames {
    public static final int NO_SUCH = -1, BAD_VALUE = -2, BAD_TEXT = -3, TOO_MANY = -4, NOT_POSSIBLE = -5, NONE = -6;
    public static final int HARM = 0, SORRY = 1, LIKE = 2;

    private static final int COASTS = 2, LISTS = 3, LIST_ROOM = 8;
    private static final int NAMES = 40, STORMS = 16, NAMESAKES = 10;
    private static final int LAST_YEAR = 999, MOST_HARM_AT_ONCE = 50, HIGHEST_LIMIT = 99;
    private static final int SHORTEST = 2, LONGEST = 6;
    private static final int PAD_ROOM = 80, PAD_NAMES = (PAD_ROOM + 1) / (SHORTEST + 1);
    private static final int LOWEST_SIGN = 33, HIGHEST_SIGN = 126, SIGN_BITS = 8, SIGN_MASK = 255, SIGNS_AT_ONCE = 8;
    private static final int HISTORY = 6, SLOTS = 2;

    private final State now = new State();
    private final Pad pad = new Pad();
    private final History history = new History();
    private final Slots slots = new Slots();

    public GaleNames() {
    }

    // ---- changes

    public int set(int setting, int value) {
        if (setting < HARM || setting > LIKE) return BAD_VALUE;
        int highest = setting == LIKE ? LONGEST : HIGHEST_LIMIT;
        if (value < 1 || value > highest) return BAD_VALUE;
        history.record(now);
        int previous = now.settings.at(setting);
        now.settings.change(setting, value);
        return previous;
    }

    public int fill(int coast, int list) {
        Row names = now.listOf(coast, list);
        if (names == null) return NO_SUCH;
        if (pad.read() != NONE) return BAD_TEXT;
        Row told = pad.told();
        if (!now.mayJoin(told, coast, names)) return NOT_POSSIBLE;
        if (names.size() + told.size() > LIST_ROOM || now.knownWith(told) > NAMES) return TOO_MANY;
        history.record(now);
        for (int i = 0; i < told.size(); i++) names.add(now.learn(told.at(i)));
        pad.signs().clear();
        return names.size();
    }

    public int strike(int coast, int list, int place) {
        Row names = now.listOf(coast, list);
        if (names == null || !names.has(place)) return NO_SUCH;
        history.record(now);
        int name = names.at(place);
        names.drop(place);
        return name;
    }

    public int storm(int coast) {
        if (!isCoast(coast)) return NO_SUCH;
        int name = now.nextName(coast);
        if (name == NONE) return NOT_POSSIBLE;
        if (now.stormNames.size() >= STORMS) return TOO_MANY;
        history.record(now);
        return now.addStorm(name, coast);
    }

    public int harm(int storm, int by) {
        if (!now.stormNames.has(storm)) return NO_SUCH;
        if (by < 1 || by > MOST_HARM_AT_ONCE) return BAD_VALUE;
        history.record(now);
        now.harmsOfNames.raise(now.stormNames.at(storm), by);
        now.stormHarms.raise(storm, by);
        return now.stormHarms.at(storm);
    }

    public int endYear() {
        if (now.year >= LAST_YEAR) return NOT_POSSIBLE;
        history.record(now);
        now.oweApologies();
        int retired = now.retireHarmed();
        now.beginNextYear();
        return retired;
    }

    public int namesake() {
        if (!pad.tellsOneName()) return BAD_TEXT;
        if (now.namesakeNames.size() >= NAMESAKES || now.knownWith(pad.told()) > NAMES) return TOO_MANY;
        history.record(now);
        int namesake = now.addNamesake(now.learn(pad.told().at(0)));
        pad.signs().clear();
        return namesake;
    }

    public int apologise(int namesake) {
        if (!now.owed.has(namesake)) return NO_SUCH;
        if (now.owed.at(namesake) < 1) return NOT_POSSIBLE;
        history.record(now);
        now.owed.raise(namesake, -1);
        now.written.raise(namesake, 1);
        return now.owed.at(namesake);
    }

    public int write(int coast, int list) {
        Row names = now.listOf(coast, list);
        if (names == null) return NO_SUCH;
        pad.signs().clear();
        for (int i = 0; i < names.size(); i++) pad.appendName(now.keys.at(names.at(i)));
        return pad.signs().size();
    }

    // ---- what there is

    public int of(int name, int what) {
        if (!now.keys.has(name)) return NO_SUCH;
        switch (what) {
            case 0: return Key.length(now.keys.at(name));
            case 1: return now.retired.at(name);
            case 2: return now.coastsOf(name);
            case 3: return now.stormsOfNames.at(name);
            case 4: return now.harmsOfNames.at(name);
            case 5: return now.namesakesOf(name);
            case 6: return now.alikeTo(name);
            default: return BAD_VALUE;
        }
    }

    public int letter(int name, int index) {
        if (!now.keys.has(name)) return NO_SUCH;
        int letter = Key.letterAt(now.keys.at(name), index);
        return letter == 0 ? NO_SUCH : Key.signOf(letter);
    }

    public int listed(int coast, int list, int place) {
        Row names = now.listOf(coast, list);
        if (names == null || !names.has(place)) return NO_SUCH;
        return names.at(place);
    }

    public int ofStorm(int storm, int what) {
        if (!now.stormNames.has(storm)) return NO_SUCH;
        switch (what) {
            case 0: return now.stormNames.at(storm);
            case 1: return now.stormCoasts.at(storm);
            case 2: return now.stormHarms.at(storm);
            case 3: return now.twinOf(storm);
            default: return BAD_VALUE;
        }
    }

    public int ofNamesake(int namesake, int what) {
        if (!now.namesakeNames.has(namesake)) return NO_SUCH;
        switch (what) {
            case 0: return now.namesakeNames.at(namesake);
            case 1: return now.owed.at(namesake);
            case 2: return now.written.at(namesake);
            default: return BAD_VALUE;
        }
    }

    public int ranked(int rank) {
        for (int name = 0; name < now.keys.size(); name++) {
            if (now.rankOf(name) == rank) return name;
        }
        return NO_SUCH;
    }

    public int sign(int place) {
        return pad.signs().has(place) ? pad.signs().at(place) : NO_SUCH;
    }

    public int count(int what) {
        switch (what) {
            case 0: return now.year;
            case 1: return now.keys.size();
            case 2: return now.retired.total();
            case 3: return now.stormNames.size();
            case 4: return now.stormsOfNames.total();
            case 5: return now.twins();
            case 6: return now.namesakeNames.size();
            case 7: return now.owed.total();
            case 8: return now.written.total();
            case 9: return now.settings.at(HARM);
            case 10: return now.settings.at(SORRY);
            case 11: return now.settings.at(LIKE);
            case 12: return pad.signs().size();
            case 13: return history.size();
            default: return BAD_VALUE;
        }
    }

    // ---- what if, and what is found; nothing changes

    public int find() {
        if (!pad.tellsOneName()) return BAD_TEXT;
        int name = now.keys.placeOf(pad.told().at(0));
        return name == NO_SUCH ? NONE : name;
    }

    public int beginning() {
        return pad.tellsOneName() ? now.beginningWith(pad.told().at(0)) : BAD_TEXT;
    }

    public int next(int coast) {
        return isCoast(coast) ? now.nextName(coast) : NO_SUCH;
    }

    public int left(int coast, int ahead) {
        if (!isCoast(coast)) return NO_SUCH;
        if (ahead < 0 || ahead >= LISTS) return BAD_VALUE;
        return now.namesLeft(coast, ahead);
    }

    public int ifRetired(int harm) {
        if (harm < 1 || harm > HIGHEST_LIMIT) return BAD_VALUE;
        return now.harmedBy(harm);
    }

    public int same(int name, int other) {
        if (!now.keys.has(name) || !now.keys.has(other)) return NO_SUCH;
        return Key.shared(now.keys.at(name), now.keys.at(other));
    }

    // ---- texts

    public int put(long characters) {
        int signs = signsIn(characters);
        if (signs == 0) return BAD_VALUE;
        if (pad.signs().size() + signs > PAD_ROOM) return TOO_MANY;
        for (int i = signs - 1; i >= 0; i--) pad.signs().add((int) (characters >>> SIGN_BITS * i) & SIGN_MASK);
        return pad.signs().size();
    }

    public int wipe() {
        int length = pad.signs().size();
        pad.signs().clear();
        return length;
    }

    public int fault() {
        return pad.read();
    }

    // ---- undo, saving

    public int undo() {
        State before = history.takeLatest();
        if (before == null) return NOT_POSSIBLE;
        now.copy(before);
        return history.size();
    }

    public int save(int slot) {
        if (!slots.has(slot)) return BAD_VALUE;
        slots.keep(slot, now);
        return now.keys.size();
    }

    public int restore(int slot) {
        if (!slots.has(slot)) return BAD_VALUE;
        State saved = slots.keptIn(slot);
        if (saved == null) return NOT_POSSIBLE;
        history.record(now);
        now.copy(saved);
        return now.keys.size();
    }

    private static boolean isCoast(int coast) {
        return coast >= 0 && coast < COASTS;
    }

    /** How many characters the number gives, 0 if it gives none or is no such number. */
    private static int signsIn(long characters) {
        long rest = characters;
        int signs = 0;
        while (signs < SIGNS_AT_ONCE && (rest & SIGN_MASK) != 0) {
            long sign = rest & SIGN_MASK;
            if (sign < LOWEST_SIGN || sign > HIGHEST_SIGN) return 0;
            signs++;
            rest >>>= SIGN_BITS;
        }
        return rest == 0 ? signs : 0;
    }

    /**
     * A name as one number: six places of five bits, the first letter highest, a as 1 and z as 26, 0 where it has
     * ended. So two keys compare as their names do in a dictionary.
     */
    private static final class Key {
        private static final int LETTER_BITS = 5, LETTER_MASK = 31, LETTERS = 26;

        static int letterAt(int key, int index) {
            if (index < 0 || index >= LONGEST) return 0;
            return key >> LETTER_BITS * (LONGEST - 1 - index) & LETTER_MASK;
        }

        static int withLetter(int key, int index, int letter) {
            if (index < 0 || index >= LONGEST) return key;
            return key | letter << LETTER_BITS * (LONGEST - 1 - index);
        }

        static int signOf(int letter) {
            return 'a' - 1 + letter;
        }

        /** The letter that a character stands for, 0 if it stands for none. */
        static int letterOf(int sign) {
            int letter = sign - 'a' + 1;
            return letter >= 1 && letter <= LETTERS ? letter : 0;
        }

        static int length(int key) {
            return shared(key, key);
        }

        /** By how many first letters two names are the same. */
        static int shared(int key, int other) {
            int letters = 0;
            while (letters < LONGEST && letterAt(key, letters) != 0
                    && letterAt(key, letters) == letterAt(other, letters)) {
                letters++;
            }
            return letters;
        }

        static boolean alike(int key, int other, int letters) {
            return key != other && shared(key, other) >= letters;
        }
    }

    /** Numbers in a row that has room for so many. Outside of it there is nothing: 0 is read, nothing is written. */
    private static final class Row {
        private final int[] cells;
        private int size;

        Row(int room) {
            cells = new int[Math.max(room, 0)];
        }

        int size() {
            return size;
        }

        boolean has(int place) {
            return place >= 0 && place < size && place < cells.length;
        }

        int at(int place) {
            return has(place) ? cells[place] : 0;
        }

        void change(int place, int value) {
            if (has(place)) cells[place] = value;
        }

        void raise(int place, int by) {
            change(place, at(place) + by);
        }

        void add(int value) {
            if (size < 0 || size >= cells.length) return;
            cells[size] = value;
            size++;
        }

        /** Those behind it come one place nearer. */
        void drop(int place) {
            if (!has(place)) return;
            for (int i = place + 1; i < size; i++) change(i - 1, at(i));
            size--;
        }

        void clear() {
            size = 0;
        }

        int placeOf(int value) {
            for (int i = 0; i < size; i++) {
                if (at(i) == value) return i;
            }
            return NO_SUCH;
        }

        boolean holds(int value) {
            return placeOf(value) != NO_SUCH;
        }

        int timesOf(int value) {
            int times = 0;
            for (int i = 0; i < size; i++) {
                if (at(i) == value) times++;
            }
            return times;
        }

        int total() {
            int total = 0;
            for (int i = 0; i < size; i++) total += at(i);
            return total;
        }

        void copy(Row from) {
            int length = Math.min(from.size, Math.min(from.cells.length, cells.length));
            if (length > 0) System.arraycopy(from.cells, 0, cells, 0, length);
            size = length;
        }
    }

    /** All that undo and saved states bring back. */
    private static final class State {
        private int year;
        private final Row settings = new Row(LIKE + 1);
        private final Row keys = new Row(NAMES);
        private final Row retired = new Row(NAMES);
        private final Row stormsOfNames = new Row(NAMES);
        private final Row harmsOfNames = new Row(NAMES);
        private final Row[] lists = new Row[COASTS * LISTS];
        private final Row stormNames = new Row(STORMS);
        private final Row stormCoasts = new Row(STORMS);
        private final Row stormHarms = new Row(STORMS);
        private final Row namesakeNames = new Row(NAMESAKES);
        private final Row owed = new Row(NAMESAKES);
        private final Row written = new Row(NAMESAKES);

        State() {
            settings.add(30);
            settings.add(10);
            settings.add(3);
            for (int i = 0; i < lists.length; i++) lists[i] = new Row(LIST_ROOM);
        }

        void copy(State from) {
            year = from.year;
            settings.copy(from.settings);
            keys.copy(from.keys);
            retired.copy(from.retired);
            stormsOfNames.copy(from.stormsOfNames);
            harmsOfNames.copy(from.harmsOfNames);
            for (int coast = 0; coast < COASTS; coast++) {
                for (int list = 0; list < LISTS; list++) copyList(listOf(coast, list), from.listOf(coast, list));
            }
            stormNames.copy(from.stormNames);
            stormCoasts.copy(from.stormCoasts);
            stormHarms.copy(from.stormHarms);
            namesakeNames.copy(from.namesakeNames);
            owed.copy(from.owed);
            written.copy(from.written);
        }

        private static void copyList(Row to, Row from) {
            if (to != null && from != null) to.copy(from);
        }

        // lists

        /** A list, null if there is no such coast or list. */
        Row listOf(int coast, int list) {
            if (!isCoast(coast) || list < 0 || list >= LISTS) return null;
            int index = coast * LISTS + list;
            return index >= 0 && index < lists.length ? lists[index] : null;
        }

        Row listOfYear(int coast, int ahead) {
            return listOf(coast, (year + ahead) % LISTS);
        }

        boolean standsOn(int name, int coast) {
            for (int list = 0; list < LISTS; list++) {
                Row names = listOf(coast, list);
                if (names != null && names.holds(name)) return true;
            }
            return false;
        }

        int coastsOf(int name) {
            int coasts = 0;
            for (int coast = 0; coast < COASTS; coast++) {
                if (standsOn(name, coast)) coasts |= 1 << coast;
            }
            return coasts;
        }

        /** Whether the names that are told may come to a list of a coast, but for their number. */
        boolean mayJoin(Row told, int coast, Row names) {
            for (int i = 0; i < told.size(); i++) {
                int key = told.at(i);
                if (isTaken(key, coast) || isAlikeToListed(key, names)) return false;
                for (int j = 0; j < i; j++) {
                    if (key == told.at(j) || areAlike(key, told.at(j))) return false;
                }
            }
            return true;
        }

        private boolean isTaken(int key, int coast) {
            int name = keys.placeOf(key);
            return name != NO_SUCH && (retired.at(name) == 1 || standsOn(name, coast));
        }

        private boolean isAlikeToListed(int key, Row names) {
            for (int i = 0; i < names.size(); i++) {
                if (areAlike(key, keys.at(names.at(i)))) return true;
            }
            return false;
        }

        // names

        private boolean areAlike(int key, int other) {
            return Key.alike(key, other, settings.at(LIKE));
        }

        int alikeTo(int name) {
            int alike = 0;
            for (int other = 0; other < keys.size(); other++) {
                if (areAlike(keys.at(name), keys.at(other))) alike++;
            }
            return alike;
        }

        int beginningWith(int key) {
            int names = 0;
            for (int name = 0; name < keys.size(); name++) {
                if (Key.shared(key, keys.at(name)) == Key.length(key)) names++;
            }
            return names;
        }

        int rankOf(int name) {
            int rank = 0;
            for (int other = 0; other < keys.size(); other++) {
                if (keys.at(other) < keys.at(name)) rank++;
            }
            return rank;
        }

        /** How many names are known when those that are told, each once, have come. */
        int knownWith(Row told) {
            int known = keys.size();
            for (int i = 0; i < told.size(); i++) {
                if (!keys.holds(told.at(i))) known++;
            }
            return known;
        }

        /** The number of a name, which gets to be known if it is not yet. */
        int learn(int key) {
            int name = keys.placeOf(key);
            if (name != NO_SUCH) return name;
            keys.add(key);
            retired.add(0);
            stormsOfNames.add(0);
            harmsOfNames.add(0);
            return keys.size() - 1;
        }

        // storms

        private boolean wasGiven(int name, int coast) {
            for (int storm = 0; storm < stormNames.size(); storm++) {
                if (stormNames.at(storm) == name && stormCoasts.at(storm) == coast) return true;
            }
            return false;
        }

        /** A retired name need not be passed over: it stands on no list. */
        int nextName(int coast) {
            Row names = listOfYear(coast, 0);
            if (names == null) return NONE;
            for (int i = 0; i < names.size(); i++) {
                if (!wasGiven(names.at(i), coast)) return names.at(i);
            }
            return NONE;
        }

        int namesLeft(int coast, int ahead) {
            Row names = listOfYear(coast, ahead);
            if (names == null) return 0;
            int left = 0;
            for (int i = 0; i < names.size(); i++) {
                if (ahead > 0 || !wasGiven(names.at(i), coast)) left++;
            }
            return left;
        }

        int addStorm(int name, int coast) {
            stormNames.add(name);
            stormCoasts.add(coast);
            stormHarms.add(0);
            stormsOfNames.raise(name, 1);
            return stormNames.size() - 1;
        }

        /** A coast gives a name once a year, so the other storm with the same name is the only one. */
        int twinOf(int storm) {
            for (int other = 0; other < stormNames.size(); other++) {
                if (other != storm && stormNames.at(other) == stormNames.at(storm)) return other;
            }
            return NONE;
        }

        int twins() {
            int pairs = 0;
            for (int storm = 0; storm < stormNames.size(); storm++) {
                if (twinOf(storm) > storm) pairs++;
            }
            return pairs;
        }

        // the end of a year

        private int harmOfYear(int name) {
            int harm = 0;
            for (int storm = 0; storm < stormNames.size(); storm++) {
                if (stormNames.at(storm) == name) harm += stormHarms.at(storm);
            }
            return harm;
        }

        int harmedBy(int limit) {
            int harmed = 0;
            for (int name = 0; name < keys.size(); name++) {
                if (harmOfYear(name) >= limit) harmed++;
            }
            return harmed;
        }

        void oweApologies() {
            for (int namesake = 0; namesake < namesakeNames.size(); namesake++) {
                if (harmOfYear(namesakeNames.at(namesake)) >= settings.at(SORRY)) owed.raise(namesake, 1);
            }
        }

        int retireHarmed() {
            int harmed = 0;
            for (int name = 0; name < keys.size(); name++) {
                if (harmOfYear(name) >= settings.at(HARM)) {
                    retire(name);
                    harmed++;
                }
            }
            return harmed;
        }

        private void retire(int name) {
            retired.change(name, 1);
            for (int coast = 0; coast < COASTS; coast++) {
                for (int list = 0; list < LISTS; list++) {
                    Row names = listOf(coast, list);
                    if (names != null) names.drop(names.placeOf(name));
                }
            }
        }

        void beginNextYear() {
            stormNames.clear();
            stormCoasts.clear();
            stormHarms.clear();
            year++;
        }

        // namesakes

        int addNamesake(int name) {
            namesakeNames.add(name);
            owed.add(0);
            written.add(0);
            return namesakeNames.size() - 1;
        }

        int namesakesOf(int name) {
            return namesakeNames.timesOf(name);
        }
    }

    /** The text of the user, and the keys of the names that it told when it was read last. */
    private static final class Pad {
        private final Row signs = new Row(PAD_ROOM);
        private final Row told = new Row(PAD_NAMES);

        Row signs() {
            return signs;
        }

        Row told() {
            return told;
        }

        /** Reads the names that are told, and returns the fault, NONE if there is none. */
        int read() {
            told.clear();
            int key = 0;
            int letters = 0;
            for (int i = 0; i < signs.size(); i++) {
                int letter = Key.letterOf(signs.at(i));
                if (letter != 0 && letters < LONGEST) {
                    key = Key.withLetter(key, letters, letter);
                    letters++;
                } else if (signs.at(i) == ',' && letters >= SHORTEST) {
                    told.add(key);
                    key = 0;
                    letters = 0;
                } else {
                    return i;
                }
            }
            if (letters < SHORTEST) return signs.size();
            told.add(key);
            return NONE;
        }

        boolean tellsOneName() {
            return read() == NONE && told.size() == 1;
        }

        void appendName(int key) {
            if (signs.size() > 0) signs.add(',');
            for (int i = 0; i < Key.length(key); i++) signs.add(Key.signOf(Key.letterAt(key, i)));
        }
    }

    /** The states before the latest changes, the oldest one first. All are made at first and used again and again. */
    private static final class History {
        private final State[] states = new State[HISTORY];
        private int size;

        History() {
            for (int i = 0; i < states.length; i++) states[i] = new State();
        }

        int size() {
            return size;
        }

        void record(State now) {
            if (size >= states.length) dropOldest();
            State free = stateAt(size);
            if (free == null) return;
            free.copy(now);
            size++;
        }

        /** The state before the latest change, which is no longer kept; null if there is none. */
        State takeLatest() {
            if (size < 1) return null;
            size--;
            return stateAt(size);
        }

        private State stateAt(int place) {
            return place >= 0 && place < states.length ? states[place] : null;
        }

        /** It goes behind the others, to be used again. */
        private void dropOldest() {
            State oldest = stateAt(0);
            for (int i = 1; i < states.length; i++) states[i - 1] = states[i];
            if (oldest != null) states[states.length - 1] = oldest;
            size--;
        }
    }

    /** Saved states; a slot is null until something is saved in it. */
    private static final class Slots {
        private final State[] states = new State[SLOTS];

        boolean has(int slot) {
            return slot >= 0 && slot < states.length;
        }

        State keptIn(int slot) {
            return has(slot) ? states[slot] : null;
        }

        void keep(int slot, State now) {
            if (!has(slot)) return;
            State state = keptIn(slot);
            if (state == null) state = new State();
            state.copy(now);
            states[slot] = state;
        }
    }
}
